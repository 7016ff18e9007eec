theorem dX5_add_55 : decode cX5_add 55 = .ok (.getfield 22, 3) := by decide +kernel
theorem dX5_add_58 : decode cX5_add 58 = .ok (.aload_n 2, 1) := by decide +kernel
theorem dX5_add_59 : decode cX5_add 59 = .ok (.getfield 30, 3) := by decide +kernel
theorem dX5_add_62 : decode cX5_add 62 = .ok (.iadd, 1) := by decide +kernel
theorem dX5_add_63 : decode cX5_add 63 = .ok (.putfield 22, 3) := by decide +kernel
theorem dX5_add_66 : decode cX5_add 66 = .ok (.return_, 1) := by decide +kernel
theorem dX5_cableAt_0 : decode cX5_cableAt 0 = .ok (.iload_n 1, 1) := by decide +kernel
theorem dX5_cableAt_1 : decode cX5_cableAt 1 = .ok (.aload_n 0, 1) := by decide +kernel
theorem dX5_cableAt_2 : decode cX5_cableAt 2 = .ok (.getfield 15, 3) := by decide +kernel
theorem dX5_cableAt_5 : decode cX5_cableAt 5 = .ok (.if_icmp .ge 12, 3) := by decide +kernel
theorem dX5_cableAt_8 : decode cX5_cableAt 8 = .ok (.aload_n 0, 1) := by decide +kernel
theorem dX5_cableAt_9 : decode cX5_cableAt 9 = .ok (.getfield 9, 3) := by decide +kernel
theorem dX5_cableAt_12 : decode cX5_cableAt 12 = .ok (.iload_n 1, 1) := by decide +kernel
theorem dX5_cableAt_13 : decode cX5_cableAt 13 = .ok (.iaload, 1) := by decide +kernel
theorem dX5_cableAt_14 : decode cX5_cableAt 14 = .ok (.goto 4, 3) := by decide +kernel
theorem dX5_cableAt_17 : decode cX5_cableAt 17 = .ok (.iconst (-1), 1) := by decide +kernel
theorem dX5_cableAt_18 : decode cX5_cableAt 18 = .ok (.ireturn, 1) := by decide +kernel
theorem dX6_init_0 : decode cX6_init 0 = .ok (.aload_n 0, 1) := by decide +kernel
theorem dX6_init_1 : decode cX6_init 1 = .ok (.invokespecial 1, 3) := by decide +kernel
theorem dX6_init_4 : decode cX6_init 4 = .ok (.aload_n 0, 1) := by decide +kernel
theorem dX6_init_5 : decode cX6_init 5 = .ok (.bipush 10, 2) := by decide +kernel
theorem dX6_init_7 : decode cX6_init 7 = .ok (.anewarray 9, 3) := by decide +kernel
theorem dX6_init_10 : decode cX6_init 10 = .ok (.putfield 11, 3) := by decide +kernel
theorem dX6_init_13 : decode cX6_init 13 = .ok (.aload_n 0, 1) := by decide +kernel
theorem dX6_init_14 : decode cX6_init 14 = .ok (.iconst 0, 1) := by decide +kernel
theorem dX6_init_15 : decode cX6_init 15 = .ok (.putfield 15, 3) := by decide +kernel
theorem dX6_init_18 : decode cX6_init 18 = .ok (.aload_n 0, 1) := by decide +kernel
theorem dX6_init_19 : decode cX6_init 19 = .ok (.new 19, 3) := by decide +kernel
theorem dX6_init_22 : decode cX6_init 22 = .ok (.dup, 1) := by decide +kernel
theorem dX6_init_23 : decode cX6_init 23 = .ok (.invokespecial 21, 3) := by decide +kernel
theorem dX6_init_26 : decode cX6_init 26 = .ok (.putfield 22, 3) := by decide +kernel
theorem dX6_init_29 : decode cX6_init 29 = .ok (.aload_n 0, 1) := by decide +kernel
theorem dX6_init_30 : decode cX6_init 30 = .ok (.iconst 4, 1) := by decide +kernel
theorem dX6_init_31 : decode cX6_init 31 = .ok (.anewarray 26, 3) := by decide +kernel
theorem dX6_init_34 : decode cX6_init 34 = .ok (.putfield 28, 3) := by decide +kernel
theorem dX6_init_37 : decode cX6_init 37 = .ok (.aload_n 0, 1) := by decide +kernel
theorem dX6_init_38 : decode cX6_init 38 = .ok (.iconst 0, 1) := by decide +kernel
theorem dX6_init_39 : decode cX6_init 39 = .ok (.putfield 32, 3) := by decide +kernel
theorem dX6_init_42 : decode cX6_init 42 = .ok (.aload_n 0, 1) := by decide +kernel
theorem dX6_init_43 : decode cX6_init 43 = .ok (.bipush 12, 2) := by decide +kernel
theorem dX6_init_45 : decode cX6_init 45 = .ok (.anewarray 35, 3) := by decide +kernel
theorem dX6_init_48 : decode cX6_init 48 = .ok (.putfield 37, 3) := by decide +kernel
theorem dX6_init_51 : decode cX6_init 51 = .ok (.aload_n 0, 1) := by decide +kernel
theorem dX6_init_52 : decode cX6_init 52 = .ok (.iconst 0, 1) := by decide +kernel
theorem dX6_init_53 : decode cX6_init 53 = .ok (.putfield 41, 3) := by decide +kernel
theorem dX6_init_56 : decode cX6_init 56 = .ok (.aload_n 0, 1) := by decide +kernel
theorem dX6_init_57 : decode cX6_init 57 = .ok (.iconst 0, 1) := by decide +kernel
theorem dX6_init_58 : decode cX6_init 58 = .ok (.putfield 44, 3) := by decide +kernel
theorem dX6_init_61 : decode cX6_init 61 = .ok (.aload_n 0, 1) := by decide +kernel
theorem dX6_init_62 : decode cX6_init 62 = .ok (.iconst 0, 1) := by decide +kernel
theorem dX6_init_63 : decode cX6_init 63 = .ok (.putfield 48, 3) := by decide +kernel
theorem dX6_init_66 : decode cX6_init 66 = .ok (.return_, 1) := by decide +kernel
theorem dX6_island_0 : decode cX6_island 0 = .ok (.iload_n 1, 1) := by decide +kernel
theorem dX6_island_1 : decode cX6_island 1 = .ok (.iconst 0, 1) := by decide +kernel
theorem dX6_island_2 : decode cX6_island 2 = .ok (.bipush 99, 2) := by decide +kernel
theorem dX6_island_4 : decode cX6_island 4 = .ok (.invokestatic 51, 3) := by decide +kernel
theorem dX6_island_7 : decode cX6_island 7 = .ok (.iload_n 2, 1) := by decide +kernel
theorem dX6_island_8 : decode cX6_island 8 = .ok (.iconst 0, 1) := by decide +kernel
theorem dX6_island_9 : decode cX6_island 9 = .ok (.bipush 99, 2) := by decide +kernel
theorem dX6_island_11 : decode cX6_island 11 = .ok (.invokestatic 51, 3) := by decide +kernel
theorem dX6_island_14 : decode cX6_island 14 = .ok (.aload_n 0, 1) := by decide +kernel
theorem dX6_island_15 : decode cX6_island 15 = .ok (.getfield 15, 3) := by decide +kernel
theorem dX6_island_18 : decode cX6_island 18 = .ok (.bipush 10, 2) := by decide +kernel
theorem dX6_island_20 : decode cX6_island 20 = .ok (.invokestatic 55, 3) := by decide +kernel
theorem dX6_island_23 : decode cX6_island 23 = .ok (.aload_n 0, 1) := by decide +kernel
theorem dX6_island_24 : decode cX6_island 24 = .ok (.getfield 11, 3) := by decide +kernel
theorem dX6_island_27 : decode cX6_island 27 = .ok (.aload_n 0, 1) := by decide +kernel
theorem dX6_island_28 : decode cX6_island 28 = .ok (.getfield 15, 3) := by decide +kernel
theorem dX6_island_31 : decode cX6_island 31 = .ok (.new 9, 3) := by decide +kernel
theorem dX6_island_34 : decode cX6_island 34 = .ok (.dup, 1) := by decide +kernel
theorem dX6_island_35 : decode cX6_island 35 = .ok (.iload_n 1, 1) := by decide +kernel
theorem dX6_island_36 : decode cX6_island 36 = .ok (.iload_n 2, 1) := by decide +kernel
theorem dX6_island_37 : decode cX6_island 37 = .ok (.invokespecial 59, 3) := by decide +kernel
theorem dX6_island_40 : decode cX6_island 40 = .ok (.aastore, 1) := by decide +kernel
theorem dX6_island_41 : decode cX6_island 41 = .ok (.aload_n 0, 1) := by decide +kernel
theorem dX6_island_42 : decode cX6_island 42 = .ok (.dup, 1) := by decide +kernel
theorem dX6_island_43 : decode cX6_island 43 = .ok (.getfield 15, 3) := by decide +kernel
theorem dX6_island_46 : decode cX6_island 46 = .ok (.iconst 1, 1) := by decide +kernel
theorem dX6_island_47 : decode cX6_island 47 = .ok (.iadd, 1) := by decide +kernel
theorem dX6_island_48 : decode cX6_island 48 = .ok (.putfield 15, 3) := by decide +kernel
theorem dX6_island_51 : decode cX6_island 51 = .ok (.aload_n 0, 1) := by decide +kernel
theorem dX6_island_52 : decode cX6_island 52 = .ok (.getfield 15, 3) := by decide +kernel
theorem dX6_island_55 : decode cX6_island 55 = .ok (.iconst 1, 1) := by decide +kernel
theorem dX6_island_56 : decode cX6_island 56 = .ok (.isub, 1) := by decide +kernel
theorem dX6_island_57 : decode cX6_island 57 = .ok (.ireturn, 1) := by decide +kernel
theorem dX6_cable_0 : decode cX6_cable 0 = .ok (.iload_n 1, 1) := by decide +kernel
theorem dX6_cable_1 : decode cX6_cable 1 = .ok (.aload_n 0, 1) := by decide +kernel
theorem dX6_cable_2 : decode cX6_cable 2 = .ok (.getfield 15, 3) := by decide +kernel
theorem dX6_cable_5 : decode cX6_cable 5 = .ok (.invokestatic 61, 3) := by decide +kernel
theorem dX6_cable_8 : decode cX6_cable 8 = .ok (.iload_n 2, 1) := by decide +kernel
theorem dX6_cable_9 : decode cX6_cable 9 = .ok (.aload_n 0, 1) := by decide +kernel
theorem dX6_cable_10 : decode cX6_cable 10 = .ok (.getfield 15, 3) := by decide +kernel
theorem dX6_cable_13 : decode cX6_cable 13 = .ok (.invokestatic 61, 3) := by decide +kernel
theorem dX6_cable_16 : decode cX6_cable 16 = .ok (.iload_n 1, 1) := by decide +kernel
theorem dX6_cable_17 : decode cX6_cable 17 = .ok (.iload_n 2, 1) := by decide +kernel
theorem dX6_cable_18 : decode cX6_cable 18 = .ok (.invokestatic 64, 3) := by decide +kernel
theorem dX6_cable_21 : decode cX6_cable 21 = .ok (.iload_n 3, 1) := by decide +kernel
theorem dX6_cable_22 : decode cX6_cable 22 = .ok (.iconst 1, 1) := by decide +kernel
theorem dX6_cable_23 : decode cX6_cable 23 = .ok (.bipush 8, 2) := by decide +kernel
theorem dX6_cable_25 : decode cX6_cable 25 = .ok (.invokestatic 51, 3) := by decide +kernel
theorem dX6_cable_28 : decode cX6_cable 28 = .ok (.iload 4, 2) := by decide +kernel
theorem dX6_cable_30 : decode cX6_cable 30 = .ok (.iconst 1, 1) := by decide +kernel
theorem dX6_cable_31 : decode cX6_cable 31 = .ok (.sipush 500, 3) := by decide +kernel
theorem dX6_cable_34 : decode cX6_cable 34 = .ok (.invokestatic 51, 3) := by decide +kernel
theorem dX6_cable_37 : decode cX6_cable 37 = .ok (.iload 5, 2) := by decide +kernel
theorem dX6_cable_39 : decode cX6_cable 39 = .ok (.iconst 0, 1) := by decide +kernel
theorem dX6_cable_40 : decode cX6_cable 40 = .ok (.sipush 9999, 3) := by decide +kernel
theorem dX6_cable_43 : decode cX6_cable 43 = .ok (.invokestatic 51, 3) := by decide +kernel
theorem dX6_cable_46 : decode cX6_cable 46 = .ok (.aload_n 0, 1) := by decide +kernel
theorem dX6_cable_47 : decode cX6_cable 47 = .ok (.getfield 22, 3) := by decide +kernel
theorem dX6_cable_50 : decode cX6_cable 50 = .ok (.getfield 67, 3) := by decide +kernel
theorem dX6_cable_53 : decode cX6_cable 53 = .ok (.bipush 16, 2) := by decide +kernel
theorem dX6_cable_55 : decode cX6_cable 55 = .ok (.invokestatic 55, 3) := by decide +kernel
theorem dX6_cable_58 : decode cX6_cable 58 = .ok (.aload_n 0, 1) := by decide +kernel
theorem dX6_cable_59 : decode cX6_cable 59 = .ok (.iconst 1, 1) := by decide +kernel
theorem dX6_cable_60 : decode cX6_cable 60 = .ok (.putfield 44, 3) := by decide +kernel
theorem dX6_cable_63 : decode cX6_cable 63 = .ok (.aload_n 0, 1) := by decide +kernel
theorem dX6_cable_64 : decode cX6_cable 64 = .ok (.getfield 22, 3) := by decide +kernel
theorem dX6_cable_67 : decode cX6_cable 67 = .ok (.new 70, 3) := by decide +kernel
theorem dX6_cable_70 : decode cX6_cable 70 = .ok (.dup, 1) := by decide +kernel
theorem dX6_cable_71 : decode cX6_cable 71 = .ok (.iload_n 1, 1) := by decide +kernel
theorem dX6_cable_72 : decode cX6_cable 72 = .ok (.iload_n 2, 1) := by decide +kernel
theorem dX6_cable_73 : decode cX6_cable 73 = .ok (.iload_n 3, 1) := by decide +kernel
theorem dX6_cable_74 : decode cX6_cable 74 = .ok (.iload 4, 2) := by decide +kernel
theorem dX6_cable_76 : decode cX6_cable 76 = .ok (.iload 5, 2) := by decide +kernel
theorem dX6_cable_78 : decode cX6_cable 78 = .ok (.invokespecial 72, 3) := by decide +kernel
theorem dX6_cable_81 : decode cX6_cable 81 = .ok (.invokevirtual 75, 3) := by decide +kernel
theorem dX6_cable_84 : decode cX6_cable 84 = .ok (.ireturn, 1) := by decide +kernel
theorem dX6_price_0 : decode cX6_price 0 = .ok (.iload_n 1, 1) := by decide +kernel
theorem dX6_price_1 : decode cX6_price 1 = .ok (.aload_n 0, 1) := by decide +kernel
theorem dX6_price_2 : decode cX6_price 2 = .ok (.getfield 22, 3) := by decide +kernel
theorem dX6_price_5 : decode cX6_price 5 = .ok (.getfield 67, 3) := by decide +kernel
theorem dX6_price_8 : decode cX6_price 8 = .ok (.invokestatic 61, 3) := by decide +kernel
theorem dX6_price_11 : decode cX6_price 11 = .ok (.iload_n 2, 1) := by decide +kernel
theorem dX6_price_12 : decode cX6_price 12 = .ok (.iconst 0, 1) := by decide +kernel
theorem dX6_price_13 : decode cX6_price 13 = .ok (.sipush 9999, 3) := by decide +kernel
theorem dX6_price_16 : decode cX6_price 16 = .ok (.invokestatic 51, 3) := by decide +kernel
theorem dX6_price_19 : decode cX6_price 19 = .ok (.aload_n 0, 1) := by decide +kernel
theorem dX6_price_20 : decode cX6_price 20 = .ok (.getfield 22, 3) := by decide +kernel
theorem dX6_price_23 : decode cX6_price 23 = .ok (.getfield 79, 3) := by decide +kernel
theorem dX6_price_26 : decode cX6_price 26 = .ok (.iload_n 1, 1) := by decide +kernel
theorem dX6_price_27 : decode cX6_price 27 = .ok (.aaload, 1) := by decide +kernel
theorem dX6_price_28 : decode cX6_price 28 = .ok (.getfield 83, 3) := by decide +kernel
theorem dX6_price_31 : decode cX6_price 31 = .ok (.istore_n 3, 1) := by decide +kernel
theorem dX6_price_32 : decode cX6_price 32 = .ok (.aload_n 0, 1) := by decide +kernel
theorem dX6_price_33 : decode cX6_price 33 = .ok (.getfield 22, 3) := by decide +kernel
theorem dX6_price_36 : decode cX6_price 36 = .ok (.getfield 79, 3) := by decide +kernel
theorem dX6_price_39 : decode cX6_price 39 = .ok (.iload_n 1, 1) := by decide +kernel
theorem dX6_price_40 : decode cX6_price 40 = .ok (.aaload, 1) := by decide +kernel
theorem dX6_price_41 : decode cX6_price 41 = .ok (.iload_n 2, 1) := by decide +kernel
theorem dX6_price_42 : decode cX6_price 42 = .ok (.putfield 83, 3) := by decide +kernel
theorem dX6_price_45 : decode cX6_price 45 = .ok (.aload_n 0, 1) := by decide +kernel
theorem dX6_price_46 : decode cX6_price 46 = .ok (.iconst 1, 1) := by decide +kernel
theorem dX6_price_47 : decode cX6_price 47 = .ok (.putfield 44, 3) := by decide +kernel
theorem dX6_price_50 : decode cX6_price 50 = .ok (.iload_n 3, 1) := by decide +kernel
theorem dX6_price_51 : decode cX6_price 51 = .ok (.ireturn, 1) := by decide +kernel
theorem dX6_fault_0 : decode cX6_fault 0 = .ok (.aload_n 0, 1) := by decide +kernel
theorem dX6_fault_1 : decode cX6_fault 1 = .ok (.iload_n 1, 1) := by decide +kernel
theorem dX6_fault_2 : decode cX6_fault 2 = .ok (.iload_n 2, 1) := by decide +kernel
theorem dX6_fault_3 : decode cX6_fault 3 = .ok (.invokevirtual 86, 3) := by decide +kernel
theorem dX6_fault_6 : decode cX6_fault 6 = .ok (.aload_n 0, 1) := by decide +kernel
theorem dX6_fault_7 : decode cX6_fault 7 = .ok (.getfield 22, 3) := by decide +kernel
theorem dX6_fault_10 : decode cX6_fault 10 = .ok (.getfield 79, 3) := by decide +kernel
theorem dX6_fault_13 : decode cX6_fault 13 = .ok (.iload_n 1, 1) := by decide +kernel
theorem dX6_fault_14 : decode cX6_fault 14 = .ok (.aaload, 1) := by decide +kernel
theorem dX6_fault_15 : decode cX6_fault 15 = .ok (.iload_n 2, 1) := by decide +kernel
theorem dX6_fault_16 : decode cX6_fault 16 = .ok (.invokevirtual 89, 3) := by decide +kernel
theorem dX6_fault_19 : decode cX6_fault 19 = .ok (.ifCond .eq 13, 3) := by decide +kernel
theorem dX6_fault_22 : decode cX6_fault 22 = .ok (.new 93, 3) := by decide +kernel
theorem dX6_fault_25 : decode cX6_fault 25 = .ok (.dup, 1) := by decide +kernel
theorem dX6_fault_26 : decode cX6_fault 26 = .ok (.ldc 95, 2) := by decide +kernel
theorem dX6_fault_28 : decode cX6_fault 28 = .ok (.invokespecial 97, 3) := by decide +kernel
theorem dX6_fault_31 : decode cX6_fault 31 = .ok (.athrow, 1) := by decide +kernel
theorem dX6_fault_32 : decode cX6_fault 32 = .ok (.aload_n 0, 1) := by decide +kernel
theorem dX6_fault_33 : decode cX6_fault 33 = .ok (.iconst 1, 1) := by decide +kernel
theorem dX6_fault_34 : decode cX6_fault 34 = .ok (.putfield 44, 3) := by decide +kernel
theorem dX6_fault_37 : decode cX6_fault 37 = .ok (.aload_n 0, 1) := by decide +kernel
theorem dX6_fault_38 : decode cX6_fault 38 = .ok (.getfield 22, 3) := by decide +kernel
theorem dX6_fault_41 : decode cX6_fault 41 = .ok (.iload_n 1, 1) := by decide +kernel
theorem dX6_fault_42 : decode cX6_fault 42 = .ok (.iload_n 2, 1) := by decide +kernel
theorem dX6_fault_43 : decode cX6_fault 43 = .ok (.invokevirtual 100, 3) := by decide +kernel
theorem dX6_fault_46 : decode cX6_fault 46 = .ok (.ireturn, 1) := by decide +kernel
theorem dX6_ship_0 : decode cX6_ship 0 = .ok (.iload_n 1, 1) := by decide +kernel
theorem dX6_ship_1 : decode cX6_ship 1 = .ok (.aload_n 0, 1) := by decide +kernel
theorem dX6_ship_2 : decode cX6_ship 2 = .ok (.getfield 15, 3) := by decide +kernel
theorem dX6_ship_5 : decode cX6_ship 5 = .ok (.invokestatic 61, 3) := by decide +kernel
theorem dX6_ship_8 : decode cX6_ship 8 = .ok (.iload_n 2, 1) := by decide +kernel
theorem dX6_ship_9 : decode cX6_ship 9 = .ok (.iconst 1, 1) := by decide +kernel
theorem dX6_ship_10 : decode cX6_ship 10 = .ok (.bipush 20, 2) := by decide +kernel
theorem dX6_ship_12 : decode cX6_ship 12 = .ok (.invokestatic 51, 3) := by decide +kernel
theorem dX6_ship_15 : decode cX6_ship 15 = .ok (.aload_n 0, 1) := by decide +kernel
theorem dX6_ship_16 : decode cX6_ship 16 = .ok (.getfield 32, 3) := by decide +kernel
theorem dX6_ship_19 : decode cX6_ship 19 = .ok (.iconst 4, 1) := by decide +kernel
theorem dX6_ship_20 : decode cX6_ship 20 = .ok (.invokestatic 55, 3) := by decide +kernel
theorem dX6_ship_23 : decode cX6_ship 23 = .ok (.aload_n 0, 1) := by decide +kernel
theorem dX6_ship_24 : decode cX6_ship 24 = .ok (.getfield 28, 3) := by decide +kernel
theorem dX6_ship_27 : decode cX6_ship 27 = .ok (.aload_n 0, 1) := by decide +kernel
theorem dX6_ship_28 : decode cX6_ship 28 = .ok (.getfield 32, 3) := by decide +kernel
theorem dX6_ship_31 : decode cX6_ship 31 = .ok (.new 26, 3) := by decide +kernel
theorem dX6_ship_34 : decode cX6_ship 34 = .ok (.dup, 1) := by decide +kernel
theorem dX6_ship_35 : decode cX6_ship 35 = .ok (.aload_n 0, 1) := by decide +kernel
theorem dX6_ship_36 : decode cX6_ship 36 = .ok (.getfield 11, 3) := by decide +kernel
theorem dX6_ship_39 : decode cX6_ship 39 = .ok (.iload_n 1, 1) := by decide +kernel
theorem dX6_ship_40 : decode cX6_ship 40 = .ok (.aaload, 1) := by decide +kernel
theorem dX6_ship_41 : decode cX6_ship 41 = .ok (.getfield 104, 3) := by decide +kernel
theorem dX6_ship_44 : decode cX6_ship 44 = .ok (.aload_n 0, 1) := by decide +kernel
theorem dX6_ship_45 : decode cX6_ship 45 = .ok (.getfield 11, 3) := by decide +kernel
theorem dX6_ship_48 : decode cX6_ship 48 = .ok (.iload_n 1, 1) := by decide +kernel
theorem dX6_ship_49 : decode cX6_ship 49 = .ok (.aaload, 1) := by decide +kernel
theorem dX6_ship_50 : decode cX6_ship 50 = .ok (.getfield 107, 3) := by decide +kernel
theorem dX6_ship_53 : decode cX6_ship 53 = .ok (.iload_n 2, 1) := by decide +kernel
theorem dX6_ship_54 : decode cX6_ship 54 = .ok (.invokespecial 110, 3) := by decide +kernel
theorem dX6_ship_57 : decode cX6_ship 57 = .ok (.aastore, 1) := by decide +kernel
theorem dX6_ship_58 : decode cX6_ship 58 = .ok (.aload_n 0, 1) := by decide +kernel
theorem dX6_ship_59 : decode cX6_ship 59 = .ok (.dup, 1) := by decide +kernel
theorem dX6_ship_60 : decode cX6_ship 60 = .ok (.getfield 32, 3) := by decide +kernel
theorem dX6_ship_63 : decode cX6_ship 63 = .ok (.iconst 1, 1) := by decide +kernel
theorem dX6_ship_64 : decode cX6_ship 64 = .ok (.iadd, 1) := by decide +kernel
theorem dX6_ship_65 : decode cX6_ship 65 = .ok (.putfield 32, 3) := by decide +kernel
theorem dX6_ship_68 : decode cX6_ship 68 = .ok (.aload_n 0, 1) := by decide +kernel
theorem dX6_ship_69 : decode cX6_ship 69 = .ok (.getfield 32, 3) := by decide +kernel
theorem dX6_ship_72 : decode cX6_ship 72 = .ok (.iconst 1, 1) := by decide +kernel
theorem dX6_ship_73 : decode cX6_ship 73 = .ok (.isub, 1) := by decide +kernel
theorem dX6_ship_74 : decode cX6_ship 74 = .ok (.ireturn, 1) := by decide +kernel
theorem dX6_send_0 : decode cX6_send 0 = .ok (.iload_n 1, 1) := by decide +kernel
theorem dX6_send_1 : decode cX6_send 1 = .ok (.aload_n 0, 1) := by decide +kernel
theorem dX6_send_2 : decode cX6_send 2 = .ok (.getfield 32, 3) := by decide +kernel
theorem dX6_send_5 : decode cX6_send 5 = .ok (.invokestatic 61, 3) := by decide +kernel
theorem dX6_send_8 : decode cX6_send 8 = .ok (.aload_n 0, 1) := by decide +kernel
theorem dX6_send_9 : decode cX6_send 9 = .ok (.iload_n 2, 1) := by decide +kernel
theorem dX6_send_10 : decode cX6_send 10 = .ok (.iload_n 3, 1) := by decide +kernel
theorem dX6_send_11 : decode cX6_send 11 = .ok (.invokevirtual 86, 3) := by decide +kernel
theorem dX6_send_14 : decode cX6_send 14 = .ok (.aload_n 0, 1) := by decide +kernel
theorem dX6_send_15 : decode cX6_send 15 = .ok (.getfield 28, 3) := by decide +kernel
theorem dX6_send_18 : decode cX6_send 18 = .ok (.iload_n 1, 1) := by decide +kernel
theorem dX6_send_19 : decode cX6_send 19 = .ok (.aaload, 1) := by decide +kernel
theorem dX6_send_20 : decode cX6_send 20 = .ok (.invokestatic 112, 3) := by decide +kernel
theorem dX6_send_23 : decode cX6_send 23 = .ok (.aload_n 0, 1) := by decide +kernel
theorem dX6_send_24 : decode cX6_send 24 = .ok (.getfield 22, 3) := by decide +kernel
theorem dX6_send_27 : decode cX6_send 27 = .ok (.getfield 79, 3) := by decide +kernel
theorem dX6_send_30 : decode cX6_send 30 = .ok (.iload_n 2, 1) := by decide +kernel
theorem dX6_send_31 : decode cX6_send 31 = .ok (.aaload, 1) := by decide +kernel
theorem dX6_send_32 : decode cX6_send 32 = .ok (.astore 4, 2) := by decide +kernel
theorem dX6_send_34 : decode cX6_send 34 = .ok (.aload 4, 2) := by decide +kernel
theorem dX6_send_36 : decode cX6_send 36 = .ok (.iload_n 3, 1) := by decide +kernel
theorem dX6_send_37 : decode cX6_send 37 = .ok (.invokevirtual 89, 3) := by decide +kernel
theorem dX6_send_40 : decode cX6_send 40 = .ok (.ifCond .ne 13, 3) := by decide +kernel
theorem dX6_send_43 : decode cX6_send 43 = .ok (.new 93, 3) := by decide +kernel
theorem dX6_send_46 : decode cX6_send 46 = .ok (.dup, 1) := by decide +kernel
theorem dX6_send_47 : decode cX6_send 47 = .ok (.ldc 116, 2) := by decide +kernel
theorem dX6_send_49 : decode cX6_send 49 = .ok (.invokespecial 97, 3) := by decide +kernel
theorem dX6_send_52 : decode cX6_send 52 = .ok (.athrow, 1) := by decide +kernel
theorem dX6_send_53 : decode cX6_send 53 = .ok (.aload_n 0, 1) := by decide +kernel
theorem dX6_send_54 : decode cX6_send 54 = .ok (.getfield 11, 3) := by decide +kernel
theorem dX6_send_57 : decode cX6_send 57 = .ok (.aload 4, 2) := by decide +kernel
theorem dX6_send_59 : decode cX6_send 59 = .ok (.getfield 118, 3) := by decide +kernel
theorem dX6_send_62 : decode cX6_send 62 = .ok (.aaload, 1) := by decide +kernel
theorem dX6_send_63 : decode cX6_send 63 = .ok (.astore 5, 2) := by decide +kernel
theorem dX6_send_65 : decode cX6_send 65 = .ok (.aload_n 0, 1) := by decide +kernel
theorem dX6_send_66 : decode cX6_send 66 = .ok (.getfield 11, 3) := by decide +kernel
theorem dX6_send_69 : decode cX6_send 69 = .ok (.aload 4, 2) := by decide +kernel
theorem dX6_send_71 : decode cX6_send 71 = .ok (.getfield 121, 3) := by decide +kernel
theorem dX6_send_74 : decode cX6_send 74 = .ok (.aaload, 1) := by decide +kernel
theorem dX6_send_75 : decode cX6_send 75 = .ok (.astore 6, 2) := by decide +kernel
theorem dX6_send_77 : decode cX6_send 77 = .ok (.aload_n 0, 1) := by decide +kernel
theorem dX6_send_78 : decode cX6_send 78 = .ok (.getfield 28, 3) := by decide +kernel
theorem dX6_send_81 : decode cX6_send 81 = .ok (.iload_n 1, 1) := by decide +kernel
theorem dX6_send_82 : decode cX6_send 82 = .ok (.aaload, 1) := by decide +kernel
theorem dX6_send_83 : decode cX6_send 83 = .ok (.iload_n 2, 1) := by decide +kernel
theorem dX6_send_84 : decode cX6_send 84 = .ok (.iload_n 3, 1) := by decide +kernel
theorem dX6_send_85 : decode cX6_send 85 = .ok (.invokevirtual 124, 3) := by decide +kernel
theorem dX6_send_88 : decode cX6_send 88 = .ok (.aload_n 0, 1) := by decide +kernel
theorem dX6_send_89 : decode cX6_send 89 = .ok (.aload_n 0, 1) := by decide +kernel
theorem dX6_send_90 : decode cX6_send 90 = .ok (.getfield 28, 3) := by decide +kernel
theorem dX6_send_93 : decode cX6_send 93 = .ok (.iload_n 1, 1) := by decide +kernel
theorem dX6_send_94 : decode cX6_send 94 = .ok (.aaload, 1) := by decide +kernel
theorem dX6_send_95 : decode cX6_send 95 = .ok (.aload 4, 2) := by decide +kernel
theorem dX6_send_97 : decode cX6_send 97 = .ok (.iload_n 3, 1) := by decide +kernel
theorem dX6_send_98 : decode cX6_send 98 = .ok (.aload 5, 2) := by decide +kernel
theorem dX6_send_100 : decode cX6_send 100 = .ok (.getfield 104, 3) := by decide +kernel
theorem dX6_send_103 : decode cX6_send 103 = .ok (.aload 6, 2) := by decide +kernel
theorem dX6_send_105 : decode cX6_send 105 = .ok (.getfield 104, 3) := by decide +kernel
theorem dX6_send_108 : decode cX6_send 108 = .ok (.invokevirtual 127, 3) := by decide +kernel
theorem dX6_send_111 : decode cX6_send 111 = .ok (.aload 4, 2) := by decide +kernel
theorem dX6_send_113 : decode cX6_send 113 = .ok (.iload_n 3, 1) := by decide +kernel
theorem dX6_send_114 : decode cX6_send 114 = .ok (.aload 5, 2) := by decide +kernel
theorem dX6_send_116 : decode cX6_send 116 = .ok (.getfield 107, 3) := by decide +kernel
theorem dX6_send_119 : decode cX6_send 119 = .ok (.aload 6, 2) := by decide +kernel
theorem dX6_send_121 : decode cX6_send 121 = .ok (.getfield 107, 3) := by decide +kernel
theorem dX6_send_124 : decode cX6_send 124 = .ok (.invokevirtual 127, 3) := by decide +kernel
theorem dX6_send_127 : decode cX6_send 127 = .ok (.invokevirtual 131, 3) := by decide +kernel
theorem dX6_send_130 : decode cX6_send 130 = .ok (.ireturn, 1) := by decide +kernel
theorem dX6_home_0 : decode cX6_home 0 = .ok (.iload_n 1, 1) := by decide +kernel
theorem dX6_home_1 : decode cX6_home 1 = .ok (.aload_n 0, 1) := by decide +kernel
theorem dX6_home_2 : decode cX6_home 2 = .ok (.getfield 32, 3) := by decide +kernel
theorem dX6_home_5 : decode cX6_home 5 = .ok (.invokestatic 61, 3) := by decide +kernel
theorem dX6_home_8 : decode cX6_home 8 = .ok (.iload_n 2, 1) := by decide +kernel
theorem dX6_home_9 : decode cX6_home 9 = .ok (.aload_n 0, 1) := by decide +kernel
theorem dX6_home_10 : decode cX6_home 10 = .ok (.getfield 15, 3) := by decide +kernel
theorem dX6_home_13 : decode cX6_home 13 = .ok (.invokestatic 61, 3) := by decide +kernel
theorem dX6_home_16 : decode cX6_home 16 = .ok (.aload_n 0, 1) := by decide +kernel
theorem dX6_home_17 : decode cX6_home 17 = .ok (.getfield 28, 3) := by decide +kernel
theorem dX6_home_20 : decode cX6_home 20 = .ok (.iload_n 1, 1) := by decide +kernel
theorem dX6_home_21 : decode cX6_home 21 = .ok (.aaload, 1) := by decide +kernel
theorem dX6_home_22 : decode cX6_home 22 = .ok (.invokestatic 112, 3) := by decide +kernel
theorem dX6_home_25 : decode cX6_home 25 = .ok (.aload_n 0, 1) := by decide +kernel
theorem dX6_home_26 : decode cX6_home 26 = .ok (.getfield 28, 3) := by decide +kernel
theorem dX6_home_29 : decode cX6_home 29 = .ok (.iload_n 1, 1) := by decide +kernel
theorem dX6_home_30 : decode cX6_home 30 = .ok (.aaload, 1) := by decide +kernel
theorem dX6_home_31 : decode cX6_home 31 = .ok (.iconst (-1), 1) := by decide +kernel
theorem dX6_home_32 : decode cX6_home 32 = .ok (.iconst (-1), 1) := by decide +kernel
theorem dX6_home_33 : decode cX6_home 33 = .ok (.invokevirtual 124, 3) := by decide +kernel
theorem dX6_home_36 : decode cX6_home 36 = .ok (.aload_n 0, 1) := by decide +kernel
theorem dX6_home_37 : decode cX6_home 37 = .ok (.aload_n 0, 1) := by decide +kernel
theorem dX6_home_38 : decode cX6_home 38 = .ok (.getfield 28, 3) := by decide +kernel
theorem dX6_home_41 : decode cX6_home 41 = .ok (.iload_n 1, 1) := by decide +kernel
theorem dX6_home_42 : decode cX6_home 42 = .ok (.aaload, 1) := by decide +kernel
theorem dX6_home_43 : decode cX6_home 43 = .ok (.aload_n 0, 1) := by decide +kernel
theorem dX6_home_44 : decode cX6_home 44 = .ok (.getfield 11, 3) := by decide +kernel
theorem dX6_home_47 : decode cX6_home 47 = .ok (.iload_n 2, 1) := by decide +kernel
theorem dX6_home_48 : decode cX6_home 48 = .ok (.aaload, 1) := by decide +kernel
theorem dX6_home_49 : decode cX6_home 49 = .ok (.getfield 104, 3) := by decide +kernel
theorem dX6_home_52 : decode cX6_home 52 = .ok (.aload_n 0, 1) := by decide +kernel
theorem dX6_home_53 : decode cX6_home 53 = .ok (.getfield 11, 3) := by decide +kernel
theorem dX6_home_56 : decode cX6_home 56 = .ok (.iload_n 2, 1) := by decide +kernel
theorem dX6_home_57 : decode cX6_home 57 = .ok (.aaload, 1) := by decide +kernel
theorem dX6_home_58 : decode cX6_home 58 = .ok (.getfield 107, 3) := by decide +kernel
theorem dX6_home_61 : decode cX6_home 61 = .ok (.invokevirtual 131, 3) := by decide +kernel
theorem dX6_home_64 : decode cX6_home 64 = .ok (.ireturn, 1) := by decide +kernel
theorem dX6_trader_0 : decode cX6_trader 0 = .ok (.iload_n 1, 1) := by decide +kernel
theorem dX6_trader_1 : decode cX6_trader 1 = .ok (.aload_n 0, 1) := by decide +kernel
theorem dX6_trader_2 : decode cX6_trader 2 = .ok (.getfield 15, 3) := by decide +kernel
theorem dX6_trader_5 : decode cX6_trader 5 = .ok (.invokestatic 61, 3) := by decide +kernel
theorem dX6_trader_8 : decode cX6_trader 8 = .ok (.iload_n 2, 1) := by decide +kernel
theorem dX6_trader_9 : decode cX6_trader 9 = .ok (.aload_n 0, 1) := by decide +kernel
theorem dX6_trader_10 : decode cX6_trader 10 = .ok (.getfield 15, 3) := by decide +kernel
theorem dX6_trader_13 : decode cX6_trader 13 = .ok (.invokestatic 61, 3) := by decide +kernel
theorem dX6_trader_16 : decode cX6_trader 16 = .ok (.iload_n 1, 1) := by decide +kernel
theorem dX6_trader_17 : decode cX6_trader 17 = .ok (.iload_n 2, 1) := by decide +kernel
theorem dX6_trader_18 : decode cX6_trader 18 = .ok (.invokestatic 64, 3) := by decide +kernel
theorem dX6_trader_21 : decode cX6_trader 21 = .ok (.iload_n 3, 1) := by decide +kernel
theorem dX6_trader_22 : decode cX6_trader 22 = .ok (.iconst 1, 1) := by decide +kernel
theorem dX6_trader_23 : decode cX6_trader 23 = .ok (.sipush 5000, 3) := by decide +kernel
theorem dX6_trader_26 : decode cX6_trader 26 = .ok (.invokestatic 51, 3) := by decide +kernel
theorem dX6_trader_29 : decode cX6_trader 29 = .ok (.iload 4, 2) := by decide +kernel
theorem dX6_trader_31 : decode cX6_trader 31 = .ok (.iconst 0, 1) := by decide +kernel
theorem dX6_trader_32 : decode cX6_trader 32 = .ok (.sipush 9999, 3) := by decide +kernel
theorem dX6_trader_35 : decode cX6_trader 35 = .ok (.invokestatic 51, 3) := by decide +kernel
theorem dX6_trader_38 : decode cX6_trader 38 = .ok (.iload 5, 2) := by decide +kernel
theorem dX6_trader_40 : decode cX6_trader 40 = .ok (.iconst 0, 1) := by decide +kernel
theorem dX6_trader_41 : decode cX6_trader 41 = .ok (.sipush 9999, 3) := by decide +kernel
theorem dX6_trader_44 : decode cX6_trader 44 = .ok (.invokestatic 51, 3) := by decide +kernel
theorem dX6_trader_47 : decode cX6_trader 47 = .ok (.iload 6, 2) := by decide +kernel
theorem dX6_trader_49 : decode cX6_trader 49 = .ok (.iconst 0, 1) := by decide +kernel
theorem dX6_trader_50 : decode cX6_trader 50 = .ok (.ldc 135, 2) := by decide +kernel
theorem dX6_trader_52 : decode cX6_trader 52 = .ok (.invokestatic 51, 3) := by decide +kernel
theorem dX6_trader_55 : decode cX6_trader 55 = .ok (.aload_n 0, 1) := by decide +kernel
theorem dX6_trader_56 : decode cX6_trader 56 = .ok (.getfield 41, 3) := by decide +kernel
theorem dX6_trader_59 : decode cX6_trader 59 = .ok (.bipush 12, 2) := by decide +kernel
theorem dX6_trader_61 : decode cX6_trader 61 = .ok (.invokestatic 55, 3) := by decide +kernel
theorem dX6_trader_64 : decode cX6_trader 64 = .ok (.aload_n 0, 1) := by decide +kernel
theorem dX6_trader_65 : decode cX6_trader 65 = .ok (.getfield 37, 3) := by decide +kernel
theorem dX6_trader_68 : decode cX6_trader 68 = .ok (.aload_n 0, 1) := by decide +kernel
theorem dX6_trader_69 : decode cX6_trader 69 = .ok (.getfield 41, 3) := by decide +kernel
theorem dX6_trader_72 : decode cX6_trader 72 = .ok (.new 35, 3) := by decide +kernel
theorem dX6_trader_75 : decode cX6_trader 75 = .ok (.dup, 1) := by decide +kernel
theorem dX6_trader_76 : decode cX6_trader 76 = .ok (.iload_n 1, 1) := by decide +kernel
theorem dX6_trader_77 : decode cX6_trader 77 = .ok (.iload_n 2, 1) := by decide +kernel
theorem dX6_trader_78 : decode cX6_trader 78 = .ok (.iload_n 3, 1) := by decide +kernel
theorem dX6_trader_79 : decode cX6_trader 79 = .ok (.iload 4, 2) := by decide +kernel
theorem dX6_trader_81 : decode cX6_trader 81 = .ok (.iload 5, 2) := by decide +kernel
theorem dX6_trader_83 : decode cX6_trader 83 = .ok (.iload 6, 2) := by decide +kernel
theorem dX6_trader_85 : decode cX6_trader 85 = .ok (.invokespecial 136, 3) := by decide +kernel
theorem dX6_trader_88 : decode cX6_trader 88 = .ok (.aastore, 1) := by decide +kernel
theorem dX6_trader_89 : decode cX6_trader 89 = .ok (.aload_n 0, 1) := by decide +kernel
theorem dX6_trader_90 : decode cX6_trader 90 = .ok (.dup, 1) := by decide +kernel
theorem dX6_trader_91 : decode cX6_trader 91 = .ok (.getfield 41, 3) := by decide +kernel
theorem dX6_trader_94 : decode cX6_trader 94 = .ok (.iconst 1, 1) := by decide +kernel
theorem dX6_trader_95 : decode cX6_trader 95 = .ok (.iadd, 1) := by decide +kernel
theorem dX6_trader_96 : decode cX6_trader 96 = .ok (.putfield 41, 3) := by decide +kernel
theorem dX6_trader_99 : decode cX6_trader 99 = .ok (.aload_n 0, 1) := by decide +kernel
theorem dX6_trader_100 : decode cX6_trader 100 = .ok (.iconst 1, 1) := by decide +kernel
theorem dX6_trader_101 : decode cX6_trader 101 = .ok (.putfield 44, 3) := by decide +kernel
theorem dX6_trader_104 : decode cX6_trader 104 = .ok (.aload_n 0, 1) := by decide +kernel
theorem dX6_trader_105 : decode cX6_trader 105 = .ok (.getfield 41, 3) := by decide +kernel
theorem dX6_trader_108 : decode cX6_trader 108 = .ok (.iconst 1, 1) := by decide +kernel
theorem dX6_trader_109 : decode cX6_trader 109 = .ok (.isub, 1) := by decide +kernel
theorem dX6_trader_110 : decode cX6_trader 110 = .ok (.ireturn, 1) := by decide +kernel
theorem dX6_pass_0 : decode cX6_pass 0 = .ok (.iload_n 1, 1) := by decide +kernel
theorem dX6_pass_1 : decode cX6_pass 1 = .ok (.iconst 1, 1) := by decide +kernel
theorem dX6_pass_2 : decode cX6_pass 2 = .ok (.sipush 500, 3) := by decide +kernel
theorem dX6_pass_5 : decode cX6_pass 5 = .ok (.invokestatic 51, 3) := by decide +kernel
theorem dX6_pass_8 : decode cX6_pass 8 = .ok (.iconst 0, 1) := by decide +kernel
theorem dX6_pass_9 : decode cX6_pass 9 = .ok (.istore_n 2, 1) := by decide +kernel
theorem dX6_pass_10 : decode cX6_pass 10 = .ok (.iload_n 2, 1) := by decide +kernel
theorem dX6_pass_11 : decode cX6_pass 11 = .ok (.iload_n 1, 1) := by decide +kernel
theorem dX6_pass_12 : decode cX6_pass 12 = .ok (.if_icmp .ge 13, 3) := by decide +kernel
theorem dX6_pass_15 : decode cX6_pass 15 = .ok (.aload_n 0, 1) := by decide +kernel
theorem dX6_pass_16 : decode cX6_pass 16 = .ok (.invokevirtual 139, 3) := by decide +kernel
theorem dX6_pass_19 : decode cX6_pass 19 = .ok (.iinc 2 1, 3) := by decide +kernel

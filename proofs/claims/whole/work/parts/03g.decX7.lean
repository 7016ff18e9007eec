theorem dX7_doesWork_4 : decode cX7_doesWork 4 = .ok (.iload_n 3, 1) := by decide +kernel
theorem dX7_doesWork_5 : decode cX7_doesWork 5 = .ok (.aload_n 0, 1) := by decide +kernel
theorem dX7_doesWork_6 : decode cX7_doesWork 6 = .ok (.getfield 114, 3) := by decide +kernel
theorem dX7_doesWork_9 : decode cX7_doesWork 9 = .ok (.if_icmp .ge 32, 3) := by decide +kernel
theorem dX7_doesWork_12 : decode cX7_doesWork 12 = .ok (.iload_n 2, 1) := by decide +kernel
theorem dX7_doesWork_13 : decode cX7_doesWork 13 = .ok (.ifCond .eq 20, 3) := by decide +kernel
theorem dX7_doesWork_16 : decode cX7_doesWork 16 = .ok (.aload_n 0, 1) := by decide +kernel
theorem dX7_doesWork_17 : decode cX7_doesWork 17 = .ok (.getfield 31, 3) := by decide +kernel
theorem dX7_doesWork_20 : decode cX7_doesWork 20 = .ok (.iload_n 3, 1) := by decide +kernel
theorem dX7_doesWork_21 : decode cX7_doesWork 21 = .ok (.iaload, 1) := by decide +kernel
theorem dX7_doesWork_22 : decode cX7_doesWork 22 = .ok (.bipush 8, 2) := by decide +kernel
theorem dX7_doesWork_24 : decode cX7_doesWork 24 = .ok (.idiv, 1) := by decide +kernel
theorem dX7_doesWork_25 : decode cX7_doesWork 25 = .ok (.iload_n 1, 1) := by decide +kernel
theorem dX7_doesWork_26 : decode cX7_doesWork 26 = .ok (.if_icmp .eq 7, 3) := by decide +kernel
theorem dX7_doesWork_29 : decode cX7_doesWork 29 = .ok (.iconst 1, 1) := by decide +kernel
theorem dX7_doesWork_30 : decode cX7_doesWork 30 = .ok (.goto 4, 3) := by decide +kernel
theorem dX7_doesWork_33 : decode cX7_doesWork 33 = .ok (.iconst 0, 1) := by decide +kernel
theorem dX7_doesWork_34 : decode cX7_doesWork 34 = .ok (.istore_n 2, 1) := by decide +kernel
theorem dX7_doesWork_35 : decode cX7_doesWork 35 = .ok (.iinc 3 1, 3) := by decide +kernel
theorem dX7_doesWork_38 : decode cX7_doesWork 38 = .ok (.goto (-34), 3) := by decide +kernel
theorem dX7_doesWork_41 : decode cX7_doesWork 41 = .ok (.iload_n 2, 1) := by decide +kernel
theorem dX7_doesWork_42 : decode cX7_doesWork 42 = .ok (.ireturn, 1) := by decide +kernel
theorem dX7_ship_0 : decode cX7_ship 0 = .ok (.aload_n 0, 1) := by decide +kernel
theorem dX7_ship_1 : decode cX7_ship 1 = .ok (.iload_n 1, 1) := by decide +kernel
theorem dX7_ship_2 : decode cX7_ship 2 = .ok (.invokevirtual 111, 3) := by decide +kernel
theorem dX7_ship_5 : decode cX7_ship 5 = .ok (.istore_n 3, 1) := by decide +kernel
theorem dX7_ship_6 : decode cX7_ship 6 = .ok (.aload_n 0, 1) := by decide +kernel
theorem dX7_ship_7 : decode cX7_ship 7 = .ok (.iload_n 3, 1) := by decide +kernel
theorem dX7_ship_8 : decode cX7_ship 8 = .ok (.ifCond .ne 7, 3) := by decide +kernel
theorem dX7_ship_11 : decode cX7_ship 11 = .ok (.iconst 1, 1) := by decide +kernel
theorem dX7_ship_12 : decode cX7_ship 12 = .ok (.goto 30, 3) := by decide +kernel
theorem dX7_ship_15 : decode cX7_ship 15 = .ok (.iload_n 2, 1) := by decide +kernel
theorem dX7_ship_16 : decode cX7_ship 16 = .ok (.iconst 1, 1) := by decide +kernel
theorem dX7_ship_17 : decode cX7_ship 17 = .ok (.bipush 20, 2) := by decide +kernel
theorem dX7_ship_19 : decode cX7_ship 19 = .ok (.invokestatic 91, 3) := by decide +kernel
theorem dX7_ship_22 : decode cX7_ship 22 = .ok (.ifCond .ne 7, 3) := by decide +kernel
theorem dX7_ship_25 : decode cX7_ship 25 = .ok (.iconst 2, 1) := by decide +kernel
theorem dX7_ship_26 : decode cX7_ship 26 = .ok (.goto 16, 3) := by decide +kernel
theorem dX7_ship_29 : decode cX7_ship 29 = .ok (.aload_n 0, 1) := by decide +kernel
theorem dX7_ship_30 : decode cX7_ship 30 = .ok (.getfield 102, 3) := by decide +kernel
theorem dX7_ship_33 : decode cX7_ship 33 = .ok (.iconst 4, 1) := by decide +kernel
theorem dX7_ship_34 : decode cX7_ship 34 = .ok (.if_icmp .ne 7, 3) := by decide +kernel
theorem dX7_ship_37 : decode cX7_ship 37 = .ok (.iconst 3, 1) := by decide +kernel
theorem dX7_ship_38 : decode cX7_ship 38 = .ok (.goto 4, 3) := by decide +kernel
theorem dX7_ship_41 : decode cX7_ship 41 = .ok (.iconst 0, 1) := by decide +kernel
theorem dX7_ship_42 : decode cX7_ship 42 = .ok (.invokevirtual 108, 3) := by decide +kernel
theorem dX7_ship_45 : decode cX7_ship 45 = .ok (.ifCond .ne 5, 3) := by decide +kernel
theorem dX7_ship_48 : decode cX7_ship 48 = .ok (.iconst 0, 1) := by decide +kernel
theorem dX7_ship_49 : decode cX7_ship 49 = .ok (.ireturn, 1) := by decide +kernel
theorem dX7_ship_50 : decode cX7_ship 50 = .ok (.aload_n 0, 1) := by decide +kernel
theorem dX7_ship_51 : decode cX7_ship 51 = .ok (.getfield 34, 3) := by decide +kernel
theorem dX7_ship_54 : decode cX7_ship 54 = .ok (.aload_n 0, 1) := by decide +kernel
theorem dX7_ship_55 : decode cX7_ship 55 = .ok (.getfield 102, 3) := by decide +kernel
theorem dX7_ship_58 : decode cX7_ship 58 = .ok (.iload_n 2, 1) := by decide +kernel
theorem dX7_ship_59 : decode cX7_ship 59 = .ok (.iastore, 1) := by decide +kernel
theorem dX7_ship_60 : decode cX7_ship 60 = .ok (.aload_n 0, 1) := by decide +kernel
theorem dX7_ship_61 : decode cX7_ship 61 = .ok (.getfield 40, 3) := by decide +kernel
theorem dX7_ship_64 : decode cX7_ship 64 = .ok (.aload_n 0, 1) := by decide +kernel
theorem dX7_ship_65 : decode cX7_ship 65 = .ok (.getfield 102, 3) := by decide +kernel
theorem dX7_ship_68 : decode cX7_ship 68 = .ok (.aload_n 0, 1) := by decide +kernel
theorem dX7_ship_69 : decode cX7_ship 69 = .ok (.getfield 7, 3) := by decide +kernel
theorem dX7_ship_72 : decode cX7_ship 72 = .ok (.iload_n 1, 1) := by decide +kernel
theorem dX7_ship_73 : decode cX7_ship 73 = .ok (.iaload, 1) := by decide +kernel
theorem dX7_ship_74 : decode cX7_ship 74 = .ok (.iastore, 1) := by decide +kernel
theorem dX7_ship_75 : decode cX7_ship 75 = .ok (.aload_n 0, 1) := by decide +kernel
theorem dX7_ship_76 : decode cX7_ship 76 = .ok (.getfield 43, 3) := by decide +kernel
theorem dX7_ship_79 : decode cX7_ship 79 = .ok (.aload_n 0, 1) := by decide +kernel
theorem dX7_ship_80 : decode cX7_ship 80 = .ok (.getfield 102, 3) := by decide +kernel
theorem dX7_ship_83 : decode cX7_ship 83 = .ok (.aload_n 0, 1) := by decide +kernel
theorem dX7_ship_84 : decode cX7_ship 84 = .ok (.getfield 13, 3) := by decide +kernel
theorem dX7_ship_87 : decode cX7_ship 87 = .ok (.iload_n 1, 1) := by decide +kernel
theorem dX7_ship_88 : decode cX7_ship 88 = .ok (.iaload, 1) := by decide +kernel
theorem dX7_ship_89 : decode cX7_ship 89 = .ok (.iastore, 1) := by decide +kernel
theorem dX7_ship_90 : decode cX7_ship 90 = .ok (.aload_n 0, 1) := by decide +kernel
theorem dX7_ship_91 : decode cX7_ship 91 = .ok (.dup, 1) := by decide +kernel
theorem dX7_ship_92 : decode cX7_ship 92 = .ok (.getfield 102, 3) := by decide +kernel
theorem dX7_ship_95 : decode cX7_ship 95 = .ok (.iconst 1, 1) := by decide +kernel
theorem dX7_ship_96 : decode cX7_ship 96 = .ok (.iadd, 1) := by decide +kernel
theorem dX7_ship_97 : decode cX7_ship 97 = .ok (.putfield 102, 3) := by decide +kernel
theorem dX7_ship_100 : decode cX7_ship 100 = .ok (.aload_n 0, 1) := by decide +kernel
theorem dX7_ship_101 : decode cX7_ship 101 = .ok (.getfield 102, 3) := by decide +kernel
theorem dX7_ship_104 : decode cX7_ship 104 = .ok (.iconst 1, 1) := by decide +kernel
theorem dX7_ship_105 : decode cX7_ship 105 = .ok (.isub, 1) := by decide +kernel
theorem dX7_ship_106 : decode cX7_ship 106 = .ok (.ireturn, 1) := by decide +kernel
theorem dX7_come_0 : decode cX7_come 0 = .ok (.aload_n 0, 1) := by decide +kernel
theorem dX7_come_1 : decode cX7_come 1 = .ok (.getfield 49, 3) := by decide +kernel
theorem dX7_come_4 : decode cX7_come 4 = .ok (.iload_n 1, 1) := by decide +kernel
theorem dX7_come_5 : decode cX7_come 5 = .ok (.iaload, 1) := by decide +kernel
theorem dX7_come_6 : decode cX7_come 6 = .ok (.iconst (-1), 1) := by decide +kernel
theorem dX7_come_7 : decode cX7_come 7 = .ok (.if_icmp .eq 21, 3) := by decide +kernel
theorem dX7_come_10 : decode cX7_come 10 = .ok (.aload_n 0, 1) := by decide +kernel
theorem dX7_come_11 : decode cX7_come 11 = .ok (.aload_n 0, 1) := by decide +kernel
theorem dX7_come_12 : decode cX7_come 12 = .ok (.getfield 49, 3) := by decide +kernel
theorem dX7_come_15 : decode cX7_come 15 = .ok (.iload_n 1, 1) := by decide +kernel
theorem dX7_come_16 : decode cX7_come 16 = .ok (.iaload, 1) := by decide +kernel
theorem dX7_come_17 : decode cX7_come 17 = .ok (.invokevirtual 121, 3) := by decide +kernel
theorem dX7_come_20 : decode cX7_come 20 = .ok (.iconst (-1), 1) := by decide +kernel
theorem dX7_come_21 : decode cX7_come 21 = .ok (.if_icmp .eq 7, 3) := by decide +kernel
theorem dX7_come_24 : decode cX7_come 24 = .ok (.iconst 1, 1) := by decide +kernel
theorem dX7_come_25 : decode cX7_come 25 = .ok (.goto 4, 3) := by decide +kernel
theorem dX7_come_28 : decode cX7_come 28 = .ok (.iconst 0, 1) := by decide +kernel
theorem dX7_come_29 : decode cX7_come 29 = .ok (.istore_n 2, 1) := by decide +kernel
theorem dX7_come_30 : decode cX7_come 30 = .ok (.aload_n 0, 1) := by decide +kernel
theorem dX7_come_31 : decode cX7_come 31 = .ok (.getfield 37, 3) := by decide +kernel
theorem dX7_come_34 : decode cX7_come 34 = .ok (.iload_n 1, 1) := by decide +kernel
theorem dX7_come_35 : decode cX7_come 35 = .ok (.iload_n 2, 1) := by decide +kernel
theorem dX7_come_36 : decode cX7_come 36 = .ok (.ifCond .eq 7, 3) := by decide +kernel
theorem dX7_come_39 : decode cX7_come 39 = .ok (.iconst 2, 1) := by decide +kernel
theorem dX7_come_40 : decode cX7_come 40 = .ok (.goto 4, 3) := by decide +kernel
theorem dX7_come_43 : decode cX7_come 43 = .ok (.iconst 0, 1) := by decide +kernel
theorem dX7_come_44 : decode cX7_come 44 = .ok (.iastore, 1) := by decide +kernel
theorem dX7_come_45 : decode cX7_come 45 = .ok (.aload_n 0, 1) := by decide +kernel
theorem dX7_come_46 : decode cX7_come 46 = .ok (.getfield 46, 3) := by decide +kernel
theorem dX7_come_49 : decode cX7_come 49 = .ok (.iload_n 1, 1) := by decide +kernel
theorem dX7_come_50 : decode cX7_come 50 = .ok (.iload_n 2, 1) := by decide +kernel
theorem dX7_come_51 : decode cX7_come 51 = .ok (.ifCond .eq 8, 3) := by decide +kernel
theorem dX7_come_54 : decode cX7_come 54 = .ok (.bipush 6, 2) := by decide +kernel
theorem dX7_come_56 : decode cX7_come 56 = .ok (.goto 4, 3) := by decide +kernel
theorem dX7_come_59 : decode cX7_come 59 = .ok (.iconst 0, 1) := by decide +kernel
theorem dX7_come_60 : decode cX7_come 60 = .ok (.iastore, 1) := by decide +kernel
theorem dX7_come_61 : decode cX7_come 61 = .ok (.return_, 1) := by decide +kernel
theorem dX7_sail_0 : decode cX7_sail 0 = .ok (.iload_n 2, 1) := by decide +kernel
theorem dX7_sail_1 : decode cX7_sail 1 = .ok (.aload_n 0, 1) := by decide +kernel
theorem dX7_sail_2 : decode cX7_sail 2 = .ok (.getfield 40, 3) := by decide +kernel
theorem dX7_sail_5 : decode cX7_sail 5 = .ok (.iload_n 1, 1) := by decide +kernel
theorem dX7_sail_6 : decode cX7_sail 6 = .ok (.iaload, 1) := by decide +kernel
theorem dX7_sail_7 : decode cX7_sail 7 = .ok (.isub, 1) := by decide +kernel
theorem dX7_sail_8 : decode cX7_sail 8 = .ok (.invokestatic 125, 3) := by decide +kernel
theorem dX7_sail_11 : decode cX7_sail 11 = .ok (.iload_n 3, 1) := by decide +kernel
theorem dX7_sail_12 : decode cX7_sail 12 = .ok (.aload_n 0, 1) := by decide +kernel
theorem dX7_sail_13 : decode cX7_sail 13 = .ok (.getfield 43, 3) := by decide +kernel
theorem dX7_sail_16 : decode cX7_sail 16 = .ok (.iload_n 1, 1) := by decide +kernel
theorem dX7_sail_17 : decode cX7_sail 17 = .ok (.iaload, 1) := by decide +kernel
theorem dX7_sail_18 : decode cX7_sail 18 = .ok (.isub, 1) := by decide +kernel
theorem dX7_sail_19 : decode cX7_sail 19 = .ok (.invokestatic 125, 3) := by decide +kernel
theorem dX7_sail_22 : decode cX7_sail 22 = .ok (.iadd, 1) := by decide +kernel
theorem dX7_sail_23 : decode cX7_sail 23 = .ok (.istore 5, 2) := by decide +kernel
theorem dX7_sail_25 : decode cX7_sail 25 = .ok (.iload 5, 2) := by decide +kernel
theorem dX7_sail_27 : decode cX7_sail 27 = .ok (.aload_n 0, 1) := by decide +kernel
theorem dX7_sail_28 : decode cX7_sail 28 = .ok (.getfield 34, 3) := by decide +kernel
theorem dX7_sail_31 : decode cX7_sail 31 = .ok (.iload_n 1, 1) := by decide +kernel
theorem dX7_sail_32 : decode cX7_sail 32 = .ok (.iaload, 1) := by decide +kernel
theorem dX7_sail_33 : decode cX7_sail 33 = .ok (.iadd, 1) := by decide +kernel
theorem dX7_sail_34 : decode cX7_sail 34 = .ok (.iconst 1, 1) := by decide +kernel
theorem dX7_sail_35 : decode cX7_sail 35 = .ok (.isub, 1) := by decide +kernel
theorem dX7_sail_36 : decode cX7_sail 36 = .ok (.aload_n 0, 1) := by decide +kernel
theorem dX7_sail_37 : decode cX7_sail 37 = .ok (.getfield 34, 3) := by decide +kernel
theorem dX7_sail_40 : decode cX7_sail 40 = .ok (.iload_n 1, 1) := by decide +kernel
theorem dX7_sail_41 : decode cX7_sail 41 = .ok (.iaload, 1) := by decide +kernel
theorem dX7_sail_42 : decode cX7_sail 42 = .ok (.idiv, 1) := by decide +kernel
theorem dX7_sail_43 : decode cX7_sail 43 = .ok (.istore 6, 2) := by decide +kernel
theorem dX7_sail_45 : decode cX7_sail 45 = .ok (.aload_n 0, 1) := by decide +kernel
theorem dX7_sail_46 : decode cX7_sail 46 = .ok (.getfield 40, 3) := by decide +kernel
theorem dX7_sail_49 : decode cX7_sail 49 = .ok (.iload_n 1, 1) := by decide +kernel
theorem dX7_sail_50 : decode cX7_sail 50 = .ok (.iload_n 2, 1) := by decide +kernel
theorem dX7_sail_51 : decode cX7_sail 51 = .ok (.iastore, 1) := by decide +kernel
theorem dX7_sail_52 : decode cX7_sail 52 = .ok (.aload_n 0, 1) := by decide +kernel
theorem dX7_sail_53 : decode cX7_sail 53 = .ok (.getfield 43, 3) := by decide +kernel
theorem dX7_sail_56 : decode cX7_sail 56 = .ok (.iload_n 1, 1) := by decide +kernel
theorem dX7_sail_57 : decode cX7_sail 57 = .ok (.iload_n 3, 1) := by decide +kernel
theorem dX7_sail_58 : decode cX7_sail 58 = .ok (.iastore, 1) := by decide +kernel
theorem dX7_sail_59 : decode cX7_sail 59 = .ok (.aload_n 0, 1) := by decide +kernel
theorem dX7_sail_60 : decode cX7_sail 60 = .ok (.getfield 49, 3) := by decide +kernel
theorem dX7_sail_63 : decode cX7_sail 63 = .ok (.iload_n 1, 1) := by decide +kernel
theorem dX7_sail_64 : decode cX7_sail 64 = .ok (.iload 4, 2) := by decide +kernel
theorem dX7_sail_66 : decode cX7_sail 66 = .ok (.iastore, 1) := by decide +kernel
theorem dX7_sail_67 : decode cX7_sail 67 = .ok (.aload_n 0, 1) := by decide +kernel
theorem dX7_sail_68 : decode cX7_sail 68 = .ok (.getfield 37, 3) := by decide +kernel
theorem dX7_sail_71 : decode cX7_sail 71 = .ok (.iload_n 1, 1) := by decide +kernel
theorem dX7_sail_72 : decode cX7_sail 72 = .ok (.iconst 1, 1) := by decide +kernel
theorem dX7_sail_73 : decode cX7_sail 73 = .ok (.iastore, 1) := by decide +kernel
theorem dX7_sail_74 : decode cX7_sail 74 = .ok (.aload_n 0, 1) := by decide +kernel
theorem dX7_sail_75 : decode cX7_sail 75 = .ok (.getfield 46, 3) := by decide +kernel
theorem dX7_sail_78 : decode cX7_sail 78 = .ok (.iload_n 1, 1) := by decide +kernel
theorem dX7_sail_79 : decode cX7_sail 79 = .ok (.iload 6, 2) := by decide +kernel
theorem dX7_sail_81 : decode cX7_sail 81 = .ok (.iastore, 1) := by decide +kernel
theorem dX7_sail_82 : decode cX7_sail 82 = .ok (.iload 6, 2) := by decide +kernel
theorem dX7_sail_84 : decode cX7_sail 84 = .ok (.ifCond .ne 8, 3) := by decide +kernel
theorem dX7_sail_87 : decode cX7_sail 87 = .ok (.aload_n 0, 1) := by decide +kernel
theorem dX7_sail_88 : decode cX7_sail 88 = .ok (.iload_n 1, 1) := by decide +kernel
theorem dX7_sail_89 : decode cX7_sail 89 = .ok (.invokevirtual 128, 3) := by decide +kernel
theorem dX7_sail_92 : decode cX7_sail 92 = .ok (.iload 6, 2) := by decide +kernel
theorem dX7_sail_94 : decode cX7_sail 94 = .ok (.ireturn, 1) := by decide +kernel
theorem dX7_between_0 : decode cX7_between 0 = .ok (.iload_n 0, 1) := by decide +kernel
theorem dX7_between_1 : decode cX7_between 1 = .ok (.iconst 2, 1) := by decide +kernel
theorem dX7_between_2 : decode cX7_between 2 = .ok (.iload_n 2, 1) := by decide +kernel
theorem dX7_between_3 : decode cX7_between 3 = .ok (.imul, 1) := by decide +kernel
theorem dX7_between_4 : decode cX7_between 4 = .ok (.iconst 1, 1) := by decide +kernel
theorem dX7_between_5 : decode cX7_between 5 = .ok (.iadd, 1) := by decide +kernel
theorem dX7_between_6 : decode cX7_between 6 = .ok (.iload_n 1, 1) := by decide +kernel
theorem dX7_between_7 : decode cX7_between 7 = .ok (.iload_n 0, 1) := by decide +kernel
theorem dX7_between_8 : decode cX7_between 8 = .ok (.isub, 1) := by decide +kernel
theorem dX7_between_9 : decode cX7_between 9 = .ok (.imul, 1) := by decide +kernel
theorem dX7_between_10 : decode cX7_between 10 = .ok (.iconst 2, 1) := by decide +kernel
theorem dX7_between_11 : decode cX7_between 11 = .ok (.iload_n 3, 1) := by decide +kernel
theorem dX7_between_12 : decode cX7_between 12 = .ok (.imul, 1) := by decide +kernel
theorem dX7_between_13 : decode cX7_between 13 = .ok (.idiv, 1) := by decide +kernel
theorem dX7_between_14 : decode cX7_between 14 = .ok (.iadd, 1) := by decide +kernel
theorem dX7_between_15 : decode cX7_between 15 = .ok (.ireturn, 1) := by decide +kernel
theorem dX7_send_0 : decode cX7_send 0 = .ok (.aload_n 0, 1) := by decide +kernel
theorem dX7_send_1 : decode cX7_send 1 = .ok (.iload_n 1, 1) := by decide +kernel
theorem dX7_send_2 : decode cX7_send 2 = .ok (.invokevirtual 132, 3) := by decide +kernel
theorem dX7_send_5 : decode cX7_send 5 = .ok (.ifCond .eq 16, 3) := by decide +kernel
theorem dX7_send_8 : decode cX7_send 8 = .ok (.aload_n 0, 1) := by decide +kernel
theorem dX7_send_9 : decode cX7_send 9 = .ok (.iload_n 2, 1) := by decide +kernel
theorem dX7_send_10 : decode cX7_send 10 = .ok (.iload_n 3, 1) := by decide +kernel
theorem dX7_send_11 : decode cX7_send 11 = .ok (.invokevirtual 117, 3) := by decide +kernel
theorem dX7_send_14 : decode cX7_send 14 = .ok (.ifCond .eq 7, 3) := by decide +kernel
theorem dX7_send_17 : decode cX7_send 17 = .ok (.iconst 1, 1) := by decide +kernel
theorem dX7_send_18 : decode cX7_send 18 = .ok (.goto 4, 3) := by decide +kernel
theorem dX7_send_21 : decode cX7_send 21 = .ok (.iconst 0, 1) := by decide +kernel
theorem dX7_send_22 : decode cX7_send 22 = .ok (.istore 4, 2) := by decide +kernel
theorem dX7_send_24 : decode cX7_send 24 = .ok (.iload 4, 2) := by decide +kernel
theorem dX7_send_26 : decode cX7_send 26 = .ok (.ifCond .eq 30, 3) := by decide +kernel
theorem dX7_send_29 : decode cX7_send 29 = .ok (.aload_n 0, 1) := by decide +kernel
theorem dX7_send_30 : decode cX7_send 30 = .ok (.getfield 37, 3) := by decide +kernel
theorem dX7_send_33 : decode cX7_send 33 = .ok (.iload_n 1, 1) := by decide +kernel
theorem dX7_send_34 : decode cX7_send 34 = .ok (.iaload, 1) := by decide +kernel
theorem dX7_send_35 : decode cX7_send 35 = .ok (.ifCond .ne 21, 3) := by decide +kernel
theorem dX7_send_38 : decode cX7_send 38 = .ok (.aload_n 0, 1) := by decide +kernel
theorem dX7_send_39 : decode cX7_send 39 = .ok (.bipush 8, 2) := by decide +kernel
theorem dX7_send_41 : decode cX7_send 41 = .ok (.iload_n 2, 1) := by decide +kernel
theorem dX7_send_42 : decode cX7_send 42 = .ok (.imul, 1) := by decide +kernel
theorem dX7_send_43 : decode cX7_send 43 = .ok (.iload_n 3, 1) := by decide +kernel
theorem dX7_send_44 : decode cX7_send 44 = .ok (.iadd, 1) := by decide +kernel
theorem dX7_send_45 : decode cX7_send 45 = .ok (.invokevirtual 121, 3) := by decide +kernel
theorem dX7_send_48 : decode cX7_send 48 = .ok (.iconst (-1), 1) := by decide +kernel
theorem dX7_send_49 : decode cX7_send 49 = .ok (.if_icmp .eq 7, 3) := by decide +kernel
theorem dX7_send_52 : decode cX7_send 52 = .ok (.iconst 1, 1) := by decide +kernel
theorem dX7_send_53 : decode cX7_send 53 = .ok (.goto 4, 3) := by decide +kernel
theorem dX7_send_56 : decode cX7_send 56 = .ok (.iconst 0, 1) := by decide +kernel
theorem dX7_send_57 : decode cX7_send 57 = .ok (.istore 5, 2) := by decide +kernel
theorem dX7_send_59 : decode cX7_send 59 = .ok (.aload_n 0, 1) := by decide +kernel
theorem dX7_send_60 : decode cX7_send 60 = .ok (.iload 4, 2) := by decide +kernel
theorem dX7_send_62 : decode cX7_send 62 = .ok (.ifCond .ne 7, 3) := by decide +kernel
theorem dX7_send_65 : decode cX7_send 65 = .ok (.iconst 1, 1) := by decide +kernel
theorem dX7_send_66 : decode cX7_send 66 = .ok (.goto 13, 3) := by decide +kernel
theorem dX7_send_69 : decode cX7_send 69 = .ok (.iload 5, 2) := by decide +kernel
theorem dX7_send_71 : decode cX7_send 71 = .ok (.ifCond .eq 7, 3) := by decide +kernel
theorem dX7_send_74 : decode cX7_send 74 = .ok (.iconst 0, 1) := by decide +kernel
theorem dX7_send_75 : decode cX7_send 75 = .ok (.goto 4, 3) := by decide +kernel
theorem dX7_send_78 : decode cX7_send 78 = .ok (.iconst 2, 1) := by decide +kernel
theorem dX7_send_79 : decode cX7_send 79 = .ok (.invokevirtual 108, 3) := by decide +kernel
theorem dX7_send_82 : decode cX7_send 82 = .ok (.ifCond .ne 5, 3) := by decide +kernel
theorem dX7_send_85 : decode cX7_send 85 = .ok (.iconst 0, 1) := by decide +kernel
theorem dX7_send_86 : decode cX7_send 86 = .ok (.ireturn, 1) := by decide +kernel
theorem dX7_send_87 : decode cX7_send 87 = .ok (.aload_n 0, 1) := by decide +kernel
theorem dX7_send_88 : decode cX7_send 88 = .ok (.iload_n 1, 1) := by decide +kernel
theorem dX7_send_89 : decode cX7_send 89 = .ok (.aload_n 0, 1) := by decide +kernel
theorem dX7_send_90 : decode cX7_send 90 = .ok (.getfield 7, 3) := by decide +kernel
theorem dX7_send_93 : decode cX7_send 93 = .ok (.aload_n 0, 1) := by decide +kernel
theorem dX7_send_94 : decode cX7_send 94 = .ok (.getfield 16, 3) := by decide +kernel
theorem dX7_send_97 : decode cX7_send 97 = .ok (.iload_n 2, 1) := by decide +kernel
theorem dX7_send_98 : decode cX7_send 98 = .ok (.iaload, 1) := by decide +kernel
theorem dX7_send_99 : decode cX7_send 99 = .ok (.iaload, 1) := by decide +kernel
theorem dX7_send_100 : decode cX7_send 100 = .ok (.aload_n 0, 1) := by decide +kernel
theorem dX7_send_101 : decode cX7_send 101 = .ok (.getfield 7, 3) := by decide +kernel
theorem dX7_send_104 : decode cX7_send 104 = .ok (.aload_n 0, 1) := by decide +kernel
theorem dX7_send_105 : decode cX7_send 105 = .ok (.getfield 19, 3) := by decide +kernel
theorem dX7_send_108 : decode cX7_send 108 = .ok (.iload_n 2, 1) := by decide +kernel
theorem dX7_send_109 : decode cX7_send 109 = .ok (.iaload, 1) := by decide +kernel
theorem dX7_send_110 : decode cX7_send 110 = .ok (.iaload, 1) := by decide +kernel
theorem dX7_send_111 : decode cX7_send 111 = .ok (.iload_n 3, 1) := by decide +kernel
theorem dX7_send_112 : decode cX7_send 112 = .ok (.aload_n 0, 1) := by decide +kernel
theorem dX7_send_113 : decode cX7_send 113 = .ok (.getfield 22, 3) := by decide +kernel
theorem dX7_send_116 : decode cX7_send 116 = .ok (.iload_n 2, 1) := by decide +kernel
theorem dX7_send_117 : decode cX7_send 117 = .ok (.iaload, 1) := by decide +kernel
theorem dX7_send_118 : decode cX7_send 118 = .ok (.invokestatic 135, 3) := by decide +kernel
theorem dX7_send_121 : decode cX7_send 121 = .ok (.aload_n 0, 1) := by decide +kernel
theorem dX7_send_122 : decode cX7_send 122 = .ok (.getfield 13, 3) := by decide +kernel
theorem dX7_send_125 : decode cX7_send 125 = .ok (.aload_n 0, 1) := by decide +kernel
theorem dX7_send_126 : decode cX7_send 126 = .ok (.getfield 16, 3) := by decide +kernel
theorem dX7_send_129 : decode cX7_send 129 = .ok (.iload_n 2, 1) := by decide +kernel
theorem dX7_send_130 : decode cX7_send 130 = .ok (.iaload, 1) := by decide +kernel
theorem dX7_send_131 : decode cX7_send 131 = .ok (.iaload, 1) := by decide +kernel
theorem dX7_send_132 : decode cX7_send 132 = .ok (.aload_n 0, 1) := by decide +kernel
theorem dX7_send_133 : decode cX7_send 133 = .ok (.getfield 13, 3) := by decide +kernel
theorem dX7_send_136 : decode cX7_send 136 = .ok (.aload_n 0, 1) := by decide +kernel
theorem dX7_send_137 : decode cX7_send 137 = .ok (.getfield 19, 3) := by decide +kernel
theorem dX7_send_140 : decode cX7_send 140 = .ok (.iload_n 2, 1) := by decide +kernel
theorem dX7_send_141 : decode cX7_send 141 = .ok (.iaload, 1) := by decide +kernel
theorem dX7_send_142 : decode cX7_send 142 = .ok (.iaload, 1) := by decide +kernel
theorem dX7_send_143 : decode cX7_send 143 = .ok (.iload_n 3, 1) := by decide +kernel
theorem dX7_send_144 : decode cX7_send 144 = .ok (.aload_n 0, 1) := by decide +kernel
theorem dX7_send_145 : decode cX7_send 145 = .ok (.getfield 22, 3) := by decide +kernel
theorem dX7_send_148 : decode cX7_send 148 = .ok (.iload_n 2, 1) := by decide +kernel
theorem dX7_send_149 : decode cX7_send 149 = .ok (.iaload, 1) := by decide +kernel
theorem dX7_send_150 : decode cX7_send 150 = .ok (.invokestatic 135, 3) := by decide +kernel
theorem dX7_send_153 : decode cX7_send 153 = .ok (.bipush 8, 2) := by decide +kernel
theorem dX7_send_155 : decode cX7_send 155 = .ok (.iload_n 2, 1) := by decide +kernel
theorem dX7_send_156 : decode cX7_send 156 = .ok (.imul, 1) := by decide +kernel
theorem dX7_send_157 : decode cX7_send 157 = .ok (.iload_n 3, 1) := by decide +kernel
theorem dX7_send_158 : decode cX7_send 158 = .ok (.iadd, 1) := by decide +kernel
theorem dX7_send_159 : decode cX7_send 159 = .ok (.invokevirtual 139, 3) := by decide +kernel
theorem dX7_send_162 : decode cX7_send 162 = .ok (.ireturn, 1) := by decide +kernel
theorem dX7_home_0 : decode cX7_home 0 = .ok (.aload_n 0, 1) := by decide +kernel
theorem dX7_home_1 : decode cX7_home 1 = .ok (.iload_n 1, 1) := by decide +kernel
theorem dX7_home_2 : decode cX7_home 2 = .ok (.invokevirtual 132, 3) := by decide +kernel
theorem dX7_home_5 : decode cX7_home 5 = .ok (.ifCond .eq 15, 3) := by decide +kernel
theorem dX7_home_8 : decode cX7_home 8 = .ok (.aload_n 0, 1) := by decide +kernel
theorem dX7_home_9 : decode cX7_home 9 = .ok (.iload_n 2, 1) := by decide +kernel
theorem dX7_home_10 : decode cX7_home 10 = .ok (.invokevirtual 111, 3) := by decide +kernel
theorem dX7_home_13 : decode cX7_home 13 = .ok (.ifCond .eq 7, 3) := by decide +kernel
theorem dX7_home_16 : decode cX7_home 16 = .ok (.iconst 1, 1) := by decide +kernel
theorem dX7_home_17 : decode cX7_home 17 = .ok (.goto 4, 3) := by decide +kernel
theorem dX7_home_20 : decode cX7_home 20 = .ok (.iconst 0, 1) := by decide +kernel
theorem dX7_home_21 : decode cX7_home 21 = .ok (.istore_n 3, 1) := by decide +kernel
theorem dX7_home_22 : decode cX7_home 22 = .ok (.aload_n 0, 1) := by decide +kernel
theorem dX7_home_23 : decode cX7_home 23 = .ok (.iload_n 3, 1) := by decide +kernel
theorem dX7_home_24 : decode cX7_home 24 = .ok (.ifCond .ne 7, 3) := by decide +kernel
theorem dX7_home_27 : decode cX7_home 27 = .ok (.iconst 1, 1) := by decide +kernel
theorem dX7_home_28 : decode cX7_home 28 = .ok (.goto 17, 3) := by decide +kernel
theorem dX7_home_31 : decode cX7_home 31 = .ok (.aload_n 0, 1) := by decide +kernel
theorem dX7_home_32 : decode cX7_home 32 = .ok (.getfield 37, 3) := by decide +kernel
theorem dX7_home_35 : decode cX7_home 35 = .ok (.iload_n 1, 1) := by decide +kernel
theorem dX7_home_36 : decode cX7_home 36 = .ok (.iaload, 1) := by decide +kernel
theorem dX7_home_37 : decode cX7_home 37 = .ok (.ifCond .ne 7, 3) := by decide +kernel
theorem dX7_home_40 : decode cX7_home 40 = .ok (.iconst 0, 1) := by decide +kernel
theorem dX7_home_41 : decode cX7_home 41 = .ok (.goto 4, 3) := by decide +kernel
theorem dX7_home_44 : decode cX7_home 44 = .ok (.iconst 2, 1) := by decide +kernel
theorem dX7_home_45 : decode cX7_home 45 = .ok (.invokevirtual 108, 3) := by decide +kernel
theorem dX7_home_48 : decode cX7_home 48 = .ok (.ifCond .ne 5, 3) := by decide +kernel
theorem dX7_home_51 : decode cX7_home 51 = .ok (.iconst 0, 1) := by decide +kernel
theorem dX7_home_52 : decode cX7_home 52 = .ok (.ireturn, 1) := by decide +kernel
theorem dX7_home_53 : decode cX7_home 53 = .ok (.aload_n 0, 1) := by decide +kernel
theorem dX7_home_54 : decode cX7_home 54 = .ok (.iload_n 1, 1) := by decide +kernel
theorem dX7_home_55 : decode cX7_home 55 = .ok (.aload_n 0, 1) := by decide +kernel
theorem dX7_home_56 : decode cX7_home 56 = .ok (.getfield 7, 3) := by decide +kernel
theorem dX7_home_59 : decode cX7_home 59 = .ok (.iload_n 2, 1) := by decide +kernel
theorem dX7_home_60 : decode cX7_home 60 = .ok (.iaload, 1) := by decide +kernel
theorem dX7_home_61 : decode cX7_home 61 = .ok (.aload_n 0, 1) := by decide +kernel
theorem dX7_home_62 : decode cX7_home 62 = .ok (.getfield 13, 3) := by decide +kernel
theorem dX7_home_65 : decode cX7_home 65 = .ok (.iload_n 2, 1) := by decide +kernel
theorem dX7_home_66 : decode cX7_home 66 = .ok (.iaload, 1) := by decide +kernel
theorem dX7_home_67 : decode cX7_home 67 = .ok (.iconst (-1), 1) := by decide +kernel
theorem dX7_home_68 : decode cX7_home 68 = .ok (.invokevirtual 139, 3) := by decide +kernel
theorem dX7_home_71 : decode cX7_home 71 = .ok (.ireturn, 1) := by decide +kernel
theorem dX7_mend_0 : decode cX7_mend 0 = .ok (.aload_n 0, 1) := by decide +kernel
theorem dX7_mend_1 : decode cX7_mend 1 = .ok (.aload_n 0, 1) := by decide +kernel
theorem dX7_mend_2 : decode cX7_mend 2 = .ok (.getfield 49, 3) := by decide +kernel
theorem dX7_mend_5 : decode cX7_mend 5 = .ok (.iload_n 1, 1) := by decide +kernel
theorem dX7_mend_6 : decode cX7_mend 6 = .ok (.iaload, 1) := by decide +kernel
theorem dX7_mend_7 : decode cX7_mend 7 = .ok (.invokevirtual 121, 3) := by decide +kernel
theorem dX7_mend_10 : decode cX7_mend 10 = .ok (.istore_n 2, 1) := by decide +kernel
theorem dX7_mend_11 : decode cX7_mend 11 = .ok (.iload_n 2, 1) := by decide +kernel
theorem dX7_mend_12 : decode cX7_mend 12 = .ok (.iconst (-1), 1) := by decide +kernel
theorem dX7_mend_13 : decode cX7_mend 13 = .ok (.if_icmp .eq 53, 3) := by decide +kernel
theorem dX7_mend_16 : decode cX7_mend 16 = .ok (.aload_n 0, 1) := by decide +kernel
theorem dX7_mend_17 : decode cX7_mend 17 = .ok (.dup, 1) := by decide +kernel
theorem dX7_mend_18 : decode cX7_mend 18 = .ok (.getfield 114, 3) := by decide +kernel
theorem dX7_mend_21 : decode cX7_mend 21 = .ok (.iconst 1, 1) := by decide +kernel
theorem dX7_mend_22 : decode cX7_mend 22 = .ok (.isub, 1) := by decide +kernel
theorem dX7_mend_23 : decode cX7_mend 23 = .ok (.putfield 114, 3) := by decide +kernel
theorem dX7_mend_26 : decode cX7_mend 26 = .ok (.iload_n 2, 1) := by decide +kernel
theorem dX7_mend_27 : decode cX7_mend 27 = .ok (.istore_n 3, 1) := by decide +kernel
theorem dX7_mend_28 : decode cX7_mend 28 = .ok (.iload_n 3, 1) := by decide +kernel
theorem dX7_mend_29 : decode cX7_mend 29 = .ok (.aload_n 0, 1) := by decide +kernel
theorem dX7_mend_30 : decode cX7_mend 30 = .ok (.getfield 114, 3) := by decide +kernel
theorem dX7_mend_33 : decode cX7_mend 33 = .ok (.if_icmp .ge 23, 3) := by decide +kernel
theorem dX7_mend_36 : decode cX7_mend 36 = .ok (.aload_n 0, 1) := by decide +kernel
theorem dX7_mend_37 : decode cX7_mend 37 = .ok (.getfield 31, 3) := by decide +kernel
theorem dX7_mend_40 : decode cX7_mend 40 = .ok (.iload_n 3, 1) := by decide +kernel
theorem dX7_mend_41 : decode cX7_mend 41 = .ok (.aload_n 0, 1) := by decide +kernel
theorem dX7_mend_42 : decode cX7_mend 42 = .ok (.getfield 31, 3) := by decide +kernel
theorem dX7_mend_45 : decode cX7_mend 45 = .ok (.iload_n 3, 1) := by decide +kernel
theorem dX7_mend_46 : decode cX7_mend 46 = .ok (.iconst 1, 1) := by decide +kernel
theorem dX7_mend_47 : decode cX7_mend 47 = .ok (.iadd, 1) := by decide +kernel
theorem dX7_mend_48 : decode cX7_mend 48 = .ok (.iaload, 1) := by decide +kernel
theorem dX7_mend_49 : decode cX7_mend 49 = .ok (.iastore, 1) := by decide +kernel
theorem dX7_mend_50 : decode cX7_mend 50 = .ok (.iinc 3 1, 3) := by decide +kernel
theorem dX7_mend_53 : decode cX7_mend 53 = .ok (.goto (-25), 3) := by decide +kernel
theorem dX7_mend_56 : decode cX7_mend 56 = .ok (.aload_n 0, 1) := by decide +kernel
theorem dX7_mend_57 : decode cX7_mend 57 = .ok (.getfield 52, 3) := by decide +kernel
theorem dX7_mend_60 : decode cX7_mend 60 = .ok (.iload_n 1, 1) := by decide +kernel
theorem dX7_mend_61 : decode cX7_mend 61 = .ok (.dup2, 1) := by decide +kernel
theorem dX7_mend_62 : decode cX7_mend 62 = .ok (.iaload, 1) := by decide +kernel
theorem dX7_mend_63 : decode cX7_mend 63 = .ok (.iconst 1, 1) := by decide +kernel
theorem dX7_mend_64 : decode cX7_mend 64 = .ok (.iadd, 1) := by decide +kernel
theorem dX7_mend_65 : decode cX7_mend 65 = .ok (.iastore, 1) := by decide +kernel
theorem dX7_mend_66 : decode cX7_mend 66 = .ok (.aload_n 0, 1) := by decide +kernel
theorem dX7_mend_67 : decode cX7_mend 67 = .ok (.getfield 37, 3) := by decide +kernel
theorem dX7_mend_70 : decode cX7_mend 70 = .ok (.iload_n 1, 1) := by decide +kernel
theorem dX7_mend_71 : decode cX7_mend 71 = .ok (.iconst 0, 1) := by decide +kernel
theorem dX7_mend_72 : decode cX7_mend 72 = .ok (.iastore, 1) := by decide +kernel
theorem dX7_mend_73 : decode cX7_mend 73 = .ok (.return_, 1) := by decide +kernel
theorem dX7_goOn_0 : decode cX7_goOn 0 = .ok (.aload_n 0, 1) := by decide +kernel
theorem dX7_goOn_1 : decode cX7_goOn 1 = .ok (.getfield 46, 3) := by decide +kernel
theorem dX7_goOn_4 : decode cX7_goOn 4 = .ok (.iload_n 1, 1) := by decide +kernel
theorem dX7_goOn_5 : decode cX7_goOn 5 = .ok (.dup2, 1) := by decide +kernel
theorem dX7_goOn_6 : decode cX7_goOn 6 = .ok (.iaload, 1) := by decide +kernel
theorem dX7_goOn_7 : decode cX7_goOn 7 = .ok (.iconst 1, 1) := by decide +kernel
theorem dX7_goOn_8 : decode cX7_goOn 8 = .ok (.isub, 1) := by decide +kernel
theorem dX7_goOn_9 : decode cX7_goOn 9 = .ok (.iastore, 1) := by decide +kernel
theorem dX7_goOn_10 : decode cX7_goOn 10 = .ok (.aload_n 0, 1) := by decide +kernel
theorem dX7_goOn_11 : decode cX7_goOn 11 = .ok (.getfield 46, 3) := by decide +kernel
theorem dX7_goOn_14 : decode cX7_goOn 14 = .ok (.iload_n 1, 1) := by decide +kernel
theorem dX7_goOn_15 : decode cX7_goOn 15 = .ok (.iaload, 1) := by decide +kernel
theorem dX7_goOn_16 : decode cX7_goOn 16 = .ok (.ifCond .le 4, 3) := by decide +kernel
theorem dX7_goOn_19 : decode cX7_goOn 19 = .ok (.return_, 1) := by decide +kernel
theorem dX7_goOn_20 : decode cX7_goOn 20 = .ok (.aload_n 0, 1) := by decide +kernel
theorem dX7_goOn_21 : decode cX7_goOn 21 = .ok (.getfield 37, 3) := by decide +kernel
theorem dX7_goOn_24 : decode cX7_goOn 24 = .ok (.iload_n 1, 1) := by decide +kernel
theorem dX7_goOn_25 : decode cX7_goOn 25 = .ok (.iaload, 1) := by decide +kernel
theorem dX7_goOn_26 : decode cX7_goOn 26 = .ok (.iconst 1, 1) := by decide +kernel
theorem dX7_goOn_27 : decode cX7_goOn 27 = .ok (.if_icmp .ne 11, 3) := by decide +kernel
theorem dX7_goOn_30 : decode cX7_goOn 30 = .ok (.aload_n 0, 1) := by decide +kernel
theorem dX7_goOn_31 : decode cX7_goOn 31 = .ok (.iload_n 1, 1) := by decide +kernel
theorem dX7_goOn_32 : decode cX7_goOn 32 = .ok (.invokevirtual 128, 3) := by decide +kernel
theorem dX7_goOn_35 : decode cX7_goOn 35 = .ok (.goto 35, 3) := by decide +kernel
theorem dX7_goOn_38 : decode cX7_goOn 38 = .ok (.aload_n 0, 1) := by decide +kernel
theorem dX7_goOn_39 : decode cX7_goOn 39 = .ok (.getfield 37, 3) := by decide +kernel
theorem dX7_goOn_42 : decode cX7_goOn 42 = .ok (.iload_n 1, 1) := by decide +kernel
theorem dX7_goOn_43 : decode cX7_goOn 43 = .ok (.iaload, 1) := by decide +kernel
theorem dX7_goOn_44 : decode cX7_goOn 44 = .ok (.iconst 2, 1) := by decide +kernel
theorem dX7_goOn_45 : decode cX7_goOn 45 = .ok (.if_icmp .ne 20, 3) := by decide +kernel
theorem dX7_goOn_48 : decode cX7_goOn 48 = .ok (.aload_n 0, 1) := by decide +kernel
theorem dX7_goOn_49 : decode cX7_goOn 49 = .ok (.getfield 37, 3) := by decide +kernel
theorem dX7_goOn_52 : decode cX7_goOn 52 = .ok (.iload_n 1, 1) := by decide +kernel
theorem dX7_goOn_53 : decode cX7_goOn 53 = .ok (.iconst 3, 1) := by decide +kernel
theorem dX7_goOn_54 : decode cX7_goOn 54 = .ok (.iastore, 1) := by decide +kernel
theorem dX7_goOn_55 : decode cX7_goOn 55 = .ok (.aload_n 0, 1) := by decide +kernel
theorem dX7_goOn_56 : decode cX7_goOn 56 = .ok (.getfield 46, 3) := by decide +kernel
theorem dX7_goOn_59 : decode cX7_goOn 59 = .ok (.iload_n 1, 1) := by decide +kernel
theorem dX7_goOn_60 : decode cX7_goOn 60 = .ok (.iconst 2, 1) := by decide +kernel
theorem dX7_goOn_61 : decode cX7_goOn 61 = .ok (.iastore, 1) := by decide +kernel
theorem dX7_goOn_62 : decode cX7_goOn 62 = .ok (.goto 8, 3) := by decide +kernel
theorem dX7_goOn_65 : decode cX7_goOn 65 = .ok (.aload_n 0, 1) := by decide +kernel
theorem dX7_goOn_66 : decode cX7_goOn 66 = .ok (.iload_n 1, 1) := by decide +kernel
theorem dX7_goOn_67 : decode cX7_goOn 67 = .ok (.invokevirtual 142, 3) := by decide +kernel
theorem dX7_goOn_70 : decode cX7_goOn 70 = .ok (.return_, 1) := by decide +kernel

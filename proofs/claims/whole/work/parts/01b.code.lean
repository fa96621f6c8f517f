theorem dX4_init_0 : decode cX4_init 0 = .ok (.aload_n 0, 1) := by decide +kernel
theorem dX4_init_1 : decode cX4_init 1 = .ok (.invokespecial 1, 3) := by decide +kernel
theorem dX4_init_4 : decode cX4_init 4 = .ok (.iload_n 3, 1) := by decide +kernel
theorem dX4_init_5 : decode cX4_init 5 = .ok (.bipush 17, 2) := by decide +kernel
theorem dX4_init_7 : decode cX4_init 7 = .ok (.invokestatic 7, 3) := by decide +kernel
theorem dX4_init_10 : decode cX4_init 10 = .ok (.istore 4, 2) := by decide +kernel
theorem dX4_init_12 : decode cX4_init 12 = .ok (.aload_n 0, 1) := by decide +kernel
theorem dX4_init_13 : decode cX4_init 13 = .ok (.new 13, 3) := by decide +kernel
theorem dX4_init_16 : decode cX4_init 16 = .ok (.dup, 1) := by decide +kernel
theorem dX4_init_17 : decode cX4_init 17 = .ok (.iload_n 1, 1) := by decide +kernel
theorem dX4_init_18 : decode cX4_init 18 = .ok (.bipush 6, 2) := by decide +kernel
theorem dX4_init_20 : decode cX4_init 20 = .ok (.invokestatic 7, 3) := by decide +kernel
theorem dX4_init_23 : decode cX4_init 23 = .ok (.iconst 1, 1) := by decide +kernel
theorem dX4_init_24 : decode cX4_init 24 = .ok (.iload_n 2, 1) := by decide +kernel
theorem dX4_init_25 : decode cX4_init 25 = .ok (.iconst 1, 1) := by decide +kernel
theorem dX4_init_26 : decode cX4_init 26 = .ok (.isub, 1) := by decide +kernel
theorem dX4_init_27 : decode cX4_init 27 = .ok (.iconst 4, 1) := by decide +kernel
theorem dX4_init_28 : decode cX4_init 28 = .ok (.invokestatic 7, 3) := by decide +kernel
theorem dX4_init_31 : decode cX4_init 31 = .ok (.iadd, 1) := by decide +kernel
theorem dX4_init_32 : decode cX4_init 32 = .ok (.invokespecial 15, 3) := by decide +kernel
theorem dX4_init_35 : decode cX4_init 35 = .ok (.putfield 18, 3) := by decide +kernel
theorem dX4_init_38 : decode cX4_init 38 = .ok (.aload_n 0, 1) := by decide +kernel
theorem dX4_init_39 : decode cX4_init 39 = .ok (.new 24, 3) := by decide +kernel
theorem dX4_init_42 : decode cX4_init 42 = .ok (.dup, 1) := by decide +kernel
theorem dX4_init_43 : decode cX4_init 43 = .ok (.invokespecial 26, 3) := by decide +kernel
theorem dX4_init_46 : decode cX4_init 46 = .ok (.putfield 27, 3) := by decide +kernel
theorem dX4_init_49 : decode cX4_init 49 = .ok (.aload_n 0, 1) := by decide +kernel
theorem dX4_init_50 : decode cX4_init 50 = .ok (.new 31, 3) := by decide +kernel
theorem dX4_init_53 : decode cX4_init 53 = .ok (.dup, 1) := by decide +kernel
theorem dX4_init_54 : decode cX4_init 54 = .ok (.iload 4, 2) := by decide +kernel
theorem dX4_init_56 : decode cX4_init 56 = .ok (.invokespecial 33, 3) := by decide +kernel
theorem dX4_init_59 : decode cX4_init 59 = .ok (.putfield 36, 3) := by decide +kernel
theorem dX4_init_62 : decode cX4_init 62 = .ok (.aload_n 0, 1) := by decide +kernel
theorem dX4_init_63 : decode cX4_init 63 = .ok (.new 40, 3) := by decide +kernel
theorem dX4_init_66 : decode cX4_init 66 = .ok (.dup, 1) := by decide +kernel
theorem dX4_init_67 : decode cX4_init 67 = .ok (.iload 4, 2) := by decide +kernel
theorem dX4_init_69 : decode cX4_init 69 = .ok (.invokespecial 42, 3) := by decide +kernel
theorem dX4_init_72 : decode cX4_init 72 = .ok (.putfield 43, 3) := by decide +kernel
theorem dX4_init_75 : decode cX4_init 75 = .ok (.aload_n 0, 1) := by decide +kernel
theorem dX4_init_76 : decode cX4_init 76 = .ok (.bipush 7, 2) := by decide +kernel
theorem dX4_init_78 : decode cX4_init 78 = .ok (.newarray .int, 2) := by decide +kernel
theorem dX4_init_80 : decode cX4_init 80 = .ok (.putfield 47, 3) := by decide +kernel
theorem dX4_init_83 : decode cX4_init 83 = .ok (.return_, 1) := by decide +kernel
theorem dJ9_floorMod_0 : decode cJ9_floorMod 0 = .ok (.iload_n 0, 1) := by decide +kernel
theorem dJ9_floorMod_1 : decode cJ9_floorMod 1 = .ok (.iload_n 1, 1) := by decide +kernel
theorem dJ9_floorMod_2 : decode cJ9_floorMod 2 = .ok (.irem, 1) := by decide +kernel
theorem dJ9_floorMod_3 : decode cJ9_floorMod 3 = .ok (.istore_n 2, 1) := by decide +kernel
theorem dJ9_floorMod_4 : decode cJ9_floorMod 4 = .ok (.iload_n 0, 1) := by decide +kernel
theorem dJ9_floorMod_5 : decode cJ9_floorMod 5 = .ok (.iload_n 1, 1) := by decide +kernel
theorem dJ9_floorMod_6 : decode cJ9_floorMod 6 = .ok (.ixor, 1) := by decide +kernel
theorem dJ9_floorMod_7 : decode cJ9_floorMod 7 = .ok (.ifCond .ge 11, 3) := by decide +kernel
theorem dJ9_floorMod_10 : decode cJ9_floorMod 10 = .ok (.iload_n 2, 1) := by decide +kernel
theorem dJ9_floorMod_11 : decode cJ9_floorMod 11 = .ok (.ifCond .eq 7, 3) := by decide +kernel
theorem dJ9_floorMod_14 : decode cJ9_floorMod 14 = .ok (.iload_n 2, 1) := by decide +kernel
theorem dJ9_floorMod_15 : decode cJ9_floorMod 15 = .ok (.iload_n 1, 1) := by decide +kernel
theorem dJ9_floorMod_16 : decode cJ9_floorMod 16 = .ok (.iadd, 1) := by decide +kernel
theorem dJ9_floorMod_17 : decode cJ9_floorMod 17 = .ok (.ireturn, 1) := by decide +kernel
theorem dJ9_floorMod_18 : decode cJ9_floorMod 18 = .ok (.iload_n 2, 1) := by decide +kernel
theorem dJ9_floorMod_19 : decode cJ9_floorMod 19 = .ok (.ireturn, 1) := by decide +kernel
theorem dX3_init_0 : decode cX3_init 0 = .ok (.aload_n 0, 1) := by decide +kernel
theorem dX3_init_1 : decode cX3_init 1 = .ok (.invokespecial 3, 3) := by decide +kernel
theorem dX3_init_4 : decode cX3_init 4 = .ok (.aload_n 0, 1) := by decide +kernel
theorem dX3_init_5 : decode cX3_init 5 = .ok (.iload_n 1, 1) := by decide +kernel
theorem dX3_init_6 : decode cX3_init 6 = .ok (.ifCond .le 9, 3) := by decide +kernel
theorem dX3_init_9 : decode cX3_init 9 = .ok (.iload_n 1, 1) := by decide +kernel
theorem dX3_init_10 : decode cX3_init 10 = .ok (.iconst 1, 1) := by decide +kernel
theorem dX3_init_11 : decode cX3_init 11 = .ok (.isub, 1) := by decide +kernel
theorem dX3_init_12 : decode cX3_init 12 = .ok (.goto 4, 3) := by decide +kernel
theorem dX3_init_15 : decode cX3_init 15 = .ok (.iconst 0, 1) := by decide +kernel
theorem dX3_init_16 : decode cX3_init 16 = .ok (.putfield 9, 3) := by decide +kernel
theorem dX3_init_19 : decode cX3_init 19 = .ok (.aload_n 0, 1) := by decide +kernel
theorem dX3_init_20 : decode cX3_init 20 = .ok (.iload_n 1, 1) := by decide +kernel
theorem dX3_init_21 : decode cX3_init 21 = .ok (.ifCond .le 12, 3) := by decide +kernel
theorem dX3_init_24 : decode cX3_init 24 = .ok (.iconst 1, 1) := by decide +kernel
theorem dX3_init_25 : decode cX3_init 25 = .ok (.aload_n 0, 1) := by decide +kernel
theorem dX3_init_26 : decode cX3_init 26 = .ok (.getfield 9, 3) := by decide +kernel
theorem dX3_init_29 : decode cX3_init 29 = .ok (.ishl, 1) := by decide +kernel
theorem dX3_init_30 : decode cX3_init 30 = .ok (.goto 4, 3) := by decide +kernel
theorem dX3_init_33 : decode cX3_init 33 = .ok (.iconst 0, 1) := by decide +kernel
theorem dX3_init_34 : decode cX3_init 34 = .ok (.putfield 15, 3) := by decide +kernel
theorem dX3_init_37 : decode cX3_init 37 = .ok (.aload_n 0, 1) := by decide +kernel
theorem dX3_init_38 : decode cX3_init 38 = .ok (.iload_n 2, 1) := by decide +kernel
theorem dX3_init_39 : decode cX3_init 39 = .ok (.putfield 18, 3) := by decide +kernel
theorem dX3_init_42 : decode cX3_init 42 = .ok (.aload_n 0, 1) := by decide +kernel
theorem dX3_init_43 : decode cX3_init 43 = .ok (.getfield 15, 3) := by decide +kernel
theorem dX3_init_46 : decode cX3_init 46 = .ok (.iload_n 2, 1) := by decide +kernel
theorem dX3_init_47 : decode cX3_init 47 = .ok (.imul, 1) := by decide +kernel
theorem dX3_init_48 : decode cX3_init 48 = .ok (.istore_n 3, 1) := by decide +kernel
theorem dX3_init_49 : decode cX3_init 49 = .ok (.aload_n 0, 1) := by decide +kernel
theorem dX3_init_50 : decode cX3_init 50 = .ok (.iload_n 3, 1) := by decide +kernel
theorem dX3_init_51 : decode cX3_init 51 = .ok (.newarray .int, 2) := by decide +kernel
theorem dX3_init_53 : decode cX3_init 53 = .ok (.putfield 21, 3) := by decide +kernel
theorem dX3_init_56 : decode cX3_init 56 = .ok (.aload_n 0, 1) := by decide +kernel
theorem dX3_init_57 : decode cX3_init 57 = .ok (.iload_n 3, 1) := by decide +kernel
theorem dX3_init_58 : decode cX3_init 58 = .ok (.newarray .int, 2) := by decide +kernel
theorem dX3_init_60 : decode cX3_init 60 = .ok (.putfield 25, 3) := by decide +kernel
theorem dX3_init_63 : decode cX3_init 63 = .ok (.aload_n 0, 1) := by decide +kernel
theorem dX3_init_64 : decode cX3_init 64 = .ok (.iload_n 3, 1) := by decide +kernel
theorem dX3_init_65 : decode cX3_init 65 = .ok (.newarray .int, 2) := by decide +kernel
theorem dX3_init_67 : decode cX3_init 67 = .ok (.putfield 28, 3) := by decide +kernel
theorem dX3_init_70 : decode cX3_init 70 = .ok (.aload_n 0, 1) := by decide +kernel
theorem dX3_init_71 : decode cX3_init 71 = .ok (.iload_n 3, 1) := by decide +kernel
theorem dX3_init_72 : decode cX3_init 72 = .ok (.newarray .int, 2) := by decide +kernel
theorem dX3_init_74 : decode cX3_init 74 = .ok (.putfield 31, 3) := by decide +kernel
theorem dX3_init_77 : decode cX3_init 77 = .ok (.aload_n 0, 1) := by decide +kernel
theorem dX3_init_78 : decode cX3_init 78 = .ok (.getfield 21, 3) := by decide +kernel
theorem dX3_init_81 : decode cX3_init 81 = .ok (.iconst (-1), 1) := by decide +kernel
theorem dX3_init_82 : decode cX3_init 82 = .ok (.invokestatic 34, 3) := by decide +kernel
theorem dX3_init_85 : decode cX3_init 85 = .ok (.return_, 1) := by decide +kernel
theorem dJ7_fill_0 : decode cJ7_fill 0 = .ok (.iconst 0, 1) := by decide +kernel
theorem dJ7_fill_1 : decode cJ7_fill 1 = .ok (.istore_n 2, 1) := by decide +kernel
theorem dJ7_fill_2 : decode cJ7_fill 2 = .ok (.aload_n 0, 1) := by decide +kernel
theorem dJ7_fill_3 : decode cJ7_fill 3 = .ok (.arraylength, 1) := by decide +kernel
theorem dJ7_fill_4 : decode cJ7_fill 4 = .ok (.istore_n 3, 1) := by decide +kernel
theorem dJ7_fill_5 : decode cJ7_fill 5 = .ok (.iload_n 2, 1) := by decide +kernel
theorem dJ7_fill_6 : decode cJ7_fill 6 = .ok (.iload_n 3, 1) := by decide +kernel
theorem dJ7_fill_7 : decode cJ7_fill 7 = .ok (.if_icmp .ge 13, 3) := by decide +kernel
theorem dJ7_fill_10 : decode cJ7_fill 10 = .ok (.aload_n 0, 1) := by decide +kernel
theorem dJ7_fill_11 : decode cJ7_fill 11 = .ok (.iload_n 2, 1) := by decide +kernel
theorem dJ7_fill_12 : decode cJ7_fill 12 = .ok (.iload_n 1, 1) := by decide +kernel
theorem dJ7_fill_13 : decode cJ7_fill 13 = .ok (.iastore, 1) := by decide +kernel
theorem dJ7_fill_14 : decode cJ7_fill 14 = .ok (.iinc 2 1, 3) := by decide +kernel
theorem dJ7_fill_17 : decode cJ7_fill 17 = .ok (.goto (-12), 3) := by decide +kernel
theorem dJ7_fill_20 : decode cJ7_fill 20 = .ok (.return_, 1) := by decide +kernel
theorem dX0_init_0 : decode cX0_init 0 = .ok (.aload_n 0, 1) := by decide +kernel
theorem dX0_init_1 : decode cX0_init 1 = .ok (.invokespecial 3, 3) := by decide +kernel
theorem dX0_init_4 : decode cX0_init 4 = .ok (.aload_n 0, 1) := by decide +kernel
theorem dX0_init_5 : decode cX0_init 5 = .ok (.bipush 64, 2) := by decide +kernel
theorem dX0_init_7 : decode cX0_init 7 = .ok (.newarray .int, 2) := by decide +kernel
theorem dX0_init_9 : decode cX0_init 9 = .ok (.putfield 9, 3) := by decide +kernel
theorem dX0_init_12 : decode cX0_init 12 = .ok (.aload_n 0, 1) := by decide +kernel
theorem dX0_init_13 : decode cX0_init 13 = .ok (.bipush 64, 2) := by decide +kernel
theorem dX0_init_15 : decode cX0_init 15 = .ok (.newarray .int, 2) := by decide +kernel
theorem dX0_init_17 : decode cX0_init 17 = .ok (.putfield 15, 3) := by decide +kernel
theorem dX0_init_20 : decode cX0_init 20 = .ok (.aload_n 0, 1) := by decide +kernel
theorem dX0_init_21 : decode cX0_init 21 = .ok (.getfield 9, 3) := by decide +kernel
theorem dX0_init_24 : decode cX0_init 24 = .ok (.iconst (-1), 1) := by decide +kernel
theorem dX0_init_25 : decode cX0_init 25 = .ok (.invokestatic 18, 3) := by decide +kernel
theorem dX0_init_28 : decode cX0_init 28 = .ok (.return_, 1) := by decide +kernel
theorem dX2_init_0 : decode cX2_init 0 = .ok (.aload_n 0, 1) := by decide +kernel
theorem dX2_init_1 : decode cX2_init 1 = .ok (.invokespecial 1, 3) := by decide +kernel
theorem dX2_init_4 : decode cX2_init 4 = .ok (.aload_n 0, 1) := by decide +kernel
theorem dX2_init_5 : decode cX2_init 5 = .ok (.iload_n 1, 1) := by decide +kernel
theorem dX2_init_6 : decode cX2_init 6 = .ok (.putfield 7, 3) := by decide +kernel
theorem dX2_init_9 : decode cX2_init 9 = .ok (.aload_n 0, 1) := by decide +kernel
theorem dX2_init_10 : decode cX2_init 10 = .ok (.iload_n 1, 1) := by decide +kernel
theorem dX2_init_11 : decode cX2_init 11 = .ok (.newarray .int, 2) := by decide +kernel
theorem dX2_init_13 : decode cX2_init 13 = .ok (.putfield 13, 3) := by decide +kernel
theorem dX2_init_16 : decode cX2_init 16 = .ok (.return_, 1) := by decide +kernel
theorem dX1_init_0 : decode cX1_init 0 = .ok (.aload_n 0, 1) := by decide +kernel
theorem dX1_init_1 : decode cX1_init 1 = .ok (.invokespecial 3, 3) := by decide +kernel
theorem dX1_init_4 : decode cX1_init 4 = .ok (.aload_n 0, 1) := by decide +kernel
theorem dX1_init_5 : decode cX1_init 5 = .ok (.iload_n 1, 1) := by decide +kernel
theorem dX1_init_6 : decode cX1_init 6 = .ok (.putfield 9, 3) := by decide +kernel
theorem dX1_init_9 : decode cX1_init 9 = .ok (.aload_n 0, 1) := by decide +kernel
theorem dX1_init_10 : decode cX1_init 10 = .ok (.bipush 16, 2) := by decide +kernel
theorem dX1_init_12 : decode cX1_init 12 = .ok (.newarray .int, 2) := by decide +kernel
theorem dX1_init_14 : decode cX1_init 14 = .ok (.putfield 15, 3) := by decide +kernel
theorem dX1_init_17 : decode cX1_init 17 = .ok (.aload_n 0, 1) := by decide +kernel
theorem dX1_init_18 : decode cX1_init 18 = .ok (.bipush 16, 2) := by decide +kernel
theorem dX1_init_20 : decode cX1_init 20 = .ok (.newarray .int, 2) := by decide +kernel
theorem dX1_init_22 : decode cX1_init 22 = .ok (.putfield 19, 3) := by decide +kernel
theorem dX1_init_25 : decode cX1_init 25 = .ok (.aload_n 0, 1) := by decide +kernel
theorem dX1_init_26 : decode cX1_init 26 = .ok (.bipush 16, 2) := by decide +kernel
theorem dX1_init_28 : decode cX1_init 28 = .ok (.newarray .int, 2) := by decide +kernel
theorem dX1_init_30 : decode cX1_init 30 = .ok (.putfield 22, 3) := by decide +kernel
theorem dX1_init_33 : decode cX1_init 33 = .ok (.aload_n 0, 1) := by decide +kernel
theorem dX1_init_34 : decode cX1_init 34 = .ok (.bipush 16, 2) := by decide +kernel
theorem dX1_init_36 : decode cX1_init 36 = .ok (.iload_n 1, 1) := by decide +kernel
theorem dX1_init_37 : decode cX1_init 37 = .ok (.imul, 1) := by decide +kernel
theorem dX1_init_38 : decode cX1_init 38 = .ok (.newarray .int, 2) := by decide +kernel
theorem dX1_init_40 : decode cX1_init 40 = .ok (.putfield 25, 3) := by decide +kernel
theorem dX1_init_43 : decode cX1_init 43 = .ok (.return_, 1) := by decide +kernel
theorem dX4_ask_0 : decode cX4_ask 0 = .ok (.aload_n 0, 1) := by decide +kernel
theorem dX4_ask_1 : decode cX4_ask 1 = .ok (.iload_n 1, 1) := by decide +kernel
theorem dX4_ask_2 : decode cX4_ask 2 = .ok (.aload_n 0, 1) := by decide +kernel
theorem dX4_ask_3 : decode cX4_ask 3 = .ok (.getfield 18, 3) := by decide +kernel
theorem dX4_ask_6 : decode cX4_ask 6 = .ok (.iload_n 1, 1) := by decide +kernel
theorem dX4_ask_7 : decode cX4_ask 7 = .ok (.invokevirtual 51, 3) := by decide +kernel
theorem dX4_ask_10 : decode cX4_ask 10 = .ok (.invokevirtual 55, 3) := by decide +kernel
theorem dX4_ask_13 : decode cX4_ask 13 = .ok (.ireturn, 1) := by decide +kernel
theorem dX3_find_0 : decode cX3_find 0 = .ok (.aload_n 0, 1) := by decide +kernel
theorem dX3_find_1 : decode cX3_find 1 = .ok (.getfield 15, 3) := by decide +kernel
theorem dX3_find_4 : decode cX3_find 4 = .ok (.ifCond .ne 5, 3) := by decide +kernel
theorem dX3_find_7 : decode cX3_find 7 = .ok (.iconst (-1), 1) := by decide +kernel
theorem dX3_find_8 : decode cX3_find 8 = .ok (.ireturn, 1) := by decide +kernel
theorem dX3_find_9 : decode cX3_find 9 = .ok (.aload_n 0, 1) := by decide +kernel
theorem dX3_find_10 : decode cX3_find 10 = .ok (.iload_n 1, 1) := by decide +kernel
theorem dX3_find_11 : decode cX3_find 11 = .ok (.invokevirtual 40, 3) := by decide +kernel
theorem dX3_find_14 : decode cX3_find 14 = .ok (.istore_n 2, 1) := by decide +kernel
theorem dX3_find_15 : decode cX3_find 15 = .ok (.aload_n 0, 1) := by decide +kernel
theorem dX3_find_16 : decode cX3_find 16 = .ok (.iload_n 1, 1) := by decide +kernel
theorem dX3_find_17 : decode cX3_find 17 = .ok (.invokevirtual 44, 3) := by decide +kernel
theorem dX3_find_20 : decode cX3_find 20 = .ok (.istore_n 3, 1) := by decide +kernel
theorem dX3_find_21 : decode cX3_find 21 = .ok (.iload_n 2, 1) := by decide +kernel
theorem dX3_find_22 : decode cX3_find 22 = .ok (.istore 4, 2) := by decide +kernel
theorem dX3_find_24 : decode cX3_find 24 = .ok (.iload 4, 2) := by decide +kernel
theorem dX3_find_26 : decode cX3_find 26 = .ok (.iload_n 2, 1) := by decide +kernel
theorem dX3_find_27 : decode cX3_find 27 = .ok (.aload_n 0, 1) := by decide +kernel
theorem dX3_find_28 : decode cX3_find 28 = .ok (.getfield 18, 3) := by decide +kernel
theorem dX3_find_31 : decode cX3_find 31 = .ok (.iadd, 1) := by decide +kernel
theorem dX3_find_32 : decode cX3_find 32 = .ok (.if_icmp .ge 23, 3) := by decide +kernel
theorem dX3_find_35 : decode cX3_find 35 = .ok (.aload_n 0, 1) := by decide +kernel
theorem dX3_find_36 : decode cX3_find 36 = .ok (.getfield 21, 3) := by decide +kernel
theorem dX3_find_39 : decode cX3_find 39 = .ok (.iload 4, 2) := by decide +kernel
theorem dX3_find_41 : decode cX3_find 41 = .ok (.iaload, 1) := by decide +kernel
theorem dX3_find_42 : decode cX3_find 42 = .ok (.iload_n 3, 1) := by decide +kernel
theorem dX3_find_43 : decode cX3_find 43 = .ok (.if_icmp .ne 6, 3) := by decide +kernel
theorem dX3_find_46 : decode cX3_find 46 = .ok (.iload 4, 2) := by decide +kernel
theorem dX3_find_48 : decode cX3_find 48 = .ok (.ireturn, 1) := by decide +kernel
theorem dX3_find_49 : decode cX3_find 49 = .ok (.iinc 4 1, 3) := by decide +kernel
theorem dX3_find_52 : decode cX3_find 52 = .ok (.goto (-28), 3) := by decide +kernel
theorem dX3_find_55 : decode cX3_find 55 = .ok (.iconst (-1), 1) := by decide +kernel
theorem dX3_find_56 : decode cX3_find 56 = .ok (.ireturn, 1) := by decide +kernel
theorem dX3_firstSlotFor_0 : decode cX3_firstSlotFor 0 = .ok (.iload_n 1, 1) := by decide +kernel
theorem dX3_firstSlotFor_1 : decode cX3_firstSlotFor 1 = .ok (.iconst 2, 1) := by decide +kernel
theorem dX3_firstSlotFor_2 : decode cX3_firstSlotFor 2 = .ok (.iushr, 1) := by decide +kernel
theorem dX3_firstSlotFor_3 : decode cX3_firstSlotFor 3 = .ok (.aload_n 0, 1) := by decide +kernel
theorem dX3_firstSlotFor_4 : decode cX3_firstSlotFor 4 = .ok (.getfield 15, 3) := by decide +kernel
theorem dX3_firstSlotFor_7 : decode cX3_firstSlotFor 7 = .ok (.iconst 1, 1) := by decide +kernel
theorem dX3_firstSlotFor_8 : decode cX3_firstSlotFor 8 = .ok (.isub, 1) := by decide +kernel
theorem dX3_firstSlotFor_9 : decode cX3_firstSlotFor 9 = .ok (.iand, 1) := by decide +kernel
theorem dX3_firstSlotFor_10 : decode cX3_firstSlotFor 10 = .ok (.aload_n 0, 1) := by decide +kernel
theorem dX3_firstSlotFor_11 : decode cX3_firstSlotFor 11 = .ok (.getfield 18, 3) := by decide +kernel
theorem dX3_firstSlotFor_14 : decode cX3_firstSlotFor 14 = .ok (.imul, 1) := by decide +kernel
theorem dX3_firstSlotFor_15 : decode cX3_firstSlotFor 15 = .ok (.ireturn, 1) := by decide +kernel
theorem dX3_tagOf_0 : decode cX3_tagOf 0 = .ok (.iload_n 1, 1) := by decide +kernel
theorem dX3_tagOf_1 : decode cX3_tagOf 1 = .ok (.iconst 2, 1) := by decide +kernel
theorem dX3_tagOf_2 : decode cX3_tagOf 2 = .ok (.iushr, 1) := by decide +kernel
theorem dX3_tagOf_3 : decode cX3_tagOf 3 = .ok (.aload_n 0, 1) := by decide +kernel
theorem dX3_tagOf_4 : decode cX3_tagOf 4 = .ok (.getfield 9, 3) := by decide +kernel
theorem dX3_tagOf_7 : decode cX3_tagOf 7 = .ok (.iushr, 1) := by decide +kernel
theorem dX3_tagOf_8 : decode cX3_tagOf 8 = .ok (.sipush 255, 3) := by decide +kernel
theorem dX3_tagOf_11 : decode cX3_tagOf 11 = .ok (.iand, 1) := by decide +kernel
theorem dX3_tagOf_12 : decode cX3_tagOf 12 = .ok (.ireturn, 1) := by decide +kernel
theorem dX4_toldOf_0 : decode cX4_toldOf 0 = .ok (.iload_n 2, 1) := by decide +kernel
theorem dX4_toldOf_1 : decode cX4_toldOf 1 = .ok (.iconst (-1), 1) := by decide +kernel
theorem dX4_toldOf_2 : decode cX4_toldOf 2 = .ok (.if_icmp .ne 8, 3) := by decide +kernel
theorem dX4_toldOf_5 : decode cX4_toldOf 5 = .ok (.iload_n 1, 1) := by decide +kernel
theorem dX4_toldOf_6 : decode cX4_toldOf 6 = .ok (.invokestatic 92, 3) := by decide +kernel
theorem dX4_toldOf_9 : decode cX4_toldOf 9 = .ok (.ireturn, 1) := by decide +kernel
theorem dX4_toldOf_10 : decode cX4_toldOf 10 = .ok (.aload_n 0, 1) := by decide +kernel
theorem dX4_toldOf_11 : decode cX4_toldOf 11 = .ok (.getfield 18, 3) := by decide +kernel
theorem dX4_toldOf_14 : decode cX4_toldOf 14 = .ok (.getfield 73, 3) := by decide +kernel
theorem dX4_toldOf_17 : decode cX4_toldOf 17 = .ok (.iload_n 2, 1) := by decide +kernel
theorem dX4_toldOf_18 : decode cX4_toldOf 18 = .ok (.iaload, 1) := by decide +kernel
theorem dX4_toldOf_19 : decode cX4_toldOf 19 = .ok (.istore_n 3, 1) := by decide +kernel
theorem dX4_toldOf_20 : decode cX4_toldOf 20 = .ok (.iload_n 3, 1) := by decide +kernel
theorem dX4_toldOf_21 : decode cX4_toldOf 21 = .ok (.iconst 2, 1) := by decide +kernel
theorem dX4_toldOf_22 : decode cX4_toldOf 22 = .ok (.if_icmp .ne 22, 3) := by decide +kernel
theorem dX4_toldOf_25 : decode cX4_toldOf 25 = .ok (.aload_n 0, 1) := by decide +kernel
theorem dX4_toldOf_26 : decode cX4_toldOf 26 = .ok (.getfield 36, 3) := by decide +kernel
theorem dX4_toldOf_29 : decode cX4_toldOf 29 = .ok (.getfield 149, 3) := by decide +kernel
theorem dX4_toldOf_32 : decode cX4_toldOf 32 = .ok (.ifCond .le 12, 3) := by decide +kernel
theorem dX4_toldOf_35 : decode cX4_toldOf 35 = .ok (.aload_n 0, 1) := by decide +kernel
theorem dX4_toldOf_36 : decode cX4_toldOf 36 = .ok (.getfield 36, 3) := by decide +kernel
theorem dX4_toldOf_39 : decode cX4_toldOf 39 = .ok (.iconst 0, 1) := by decide +kernel
theorem dX4_toldOf_40 : decode cX4_toldOf 40 = .ok (.invokevirtual 154, 3) := by decide +kernel
theorem dX4_toldOf_43 : decode cX4_toldOf 43 = .ok (.ireturn, 1) := by decide +kernel
theorem dX4_toldOf_44 : decode cX4_toldOf 44 = .ok (.iload_n 3, 1) := by decide +kernel
theorem dX4_toldOf_45 : decode cX4_toldOf 45 = .ok (.iconst 3, 1) := by decide +kernel
theorem dX4_toldOf_46 : decode cX4_toldOf 46 = .ok (.if_icmp .ne 23, 3) := by decide +kernel
theorem dX4_toldOf_49 : decode cX4_toldOf 49 = .ok (.aload_n 0, 1) := by decide +kernel
theorem dX4_toldOf_50 : decode cX4_toldOf 50 = .ok (.getfield 27, 3) := by decide +kernel
theorem dX4_toldOf_53 : decode cX4_toldOf 53 = .ok (.iload_n 1, 1) := by decide +kernel
theorem dX4_toldOf_54 : decode cX4_toldOf 54 = .ok (.invokevirtual 174, 3) := by decide +kernel
theorem dX4_toldOf_57 : decode cX4_toldOf 57 = .ok (.ifCond .eq 12, 3) := by decide +kernel
theorem dX4_toldOf_60 : decode cX4_toldOf 60 = .ok (.aload_n 0, 1) := by decide +kernel
theorem dX4_toldOf_61 : decode cX4_toldOf 61 = .ok (.getfield 27, 3) := by decide +kernel
theorem dX4_toldOf_64 : decode cX4_toldOf 64 = .ok (.iload_n 1, 1) := by decide +kernel
theorem dX4_toldOf_65 : decode cX4_toldOf 65 = .ok (.invokevirtual 178, 3) := by decide +kernel
theorem dX4_toldOf_68 : decode cX4_toldOf 68 = .ok (.ireturn, 1) := by decide +kernel
theorem dX4_toldOf_69 : decode cX4_toldOf 69 = .ok (.aload_n 0, 1) := by decide +kernel
theorem dX4_toldOf_70 : decode cX4_toldOf 70 = .ok (.getfield 18, 3) := by decide +kernel
theorem dX4_toldOf_73 : decode cX4_toldOf 73 = .ok (.getfield 142, 3) := by decide +kernel
theorem dX4_toldOf_76 : decode cX4_toldOf 76 = .ok (.iload_n 2, 1) := by decide +kernel
theorem dX4_toldOf_77 : decode cX4_toldOf 77 = .ok (.iaload, 1) := by decide +kernel
theorem dX4_toldOf_78 : decode cX4_toldOf 78 = .ok (.ireturn, 1) := by decide +kernel
theorem dX4_behind_0 : decode cX4_behind 0 = .ok (.iload_n 0, 1) := by decide +kernel
theorem dX4_behind_1 : decode cX4_behind 1 = .ok (.iconst 4, 1) := by decide +kernel
theorem dX4_behind_2 : decode cX4_behind 2 = .ok (.iadd, 1) := by decide +kernel
theorem dX4_behind_3 : decode cX4_behind 3 = .ok (.ireturn, 1) := by decide +kernel
theorem dX2_fromTop_0 : decode cX2_fromTop 0 = .ok (.aload_n 0, 1) := by decide +kernel
theorem dX2_fromTop_1 : decode cX2_fromTop 1 = .ok (.getfield 13, 3) := by decide +kernel
theorem dX2_fromTop_4 : decode cX2_fromTop 4 = .ok (.aload_n 0, 1) := by decide +kernel
theorem dX2_fromTop_5 : decode cX2_fromTop 5 = .ok (.getfield 17, 3) := by decide +kernel
theorem dX2_fromTop_8 : decode cX2_fromTop 8 = .ok (.iconst 1, 1) := by decide +kernel
theorem dX2_fromTop_9 : decode cX2_fromTop 9 = .ok (.isub, 1) := by decide +kernel
theorem dX2_fromTop_10 : decode cX2_fromTop 10 = .ok (.iload_n 1, 1) := by decide +kernel
theorem dX2_fromTop_11 : decode cX2_fromTop 11 = .ok (.isub, 1) := by decide +kernel
theorem dX2_fromTop_12 : decode cX2_fromTop 12 = .ok (.iaload, 1) := by decide +kernel
theorem dX2_fromTop_13 : decode cX2_fromTop 13 = .ok (.ireturn, 1) := by decide +kernel
theorem dX0_knows_0 : decode cX0_knows 0 = .ok (.aload_n 0, 1) := by decide +kernel
theorem dX0_knows_1 : decode cX0_knows 1 = .ok (.getfield 9, 3) := by decide +kernel
theorem dX0_knows_4 : decode cX0_knows 4 = .ok (.aload_n 0, 1) := by decide +kernel
theorem dX0_knows_5 : decode cX0_knows 5 = .ok (.iload_n 1, 1) := by decide +kernel
theorem dX0_knows_6 : decode cX0_knows 6 = .ok (.invokevirtual 24, 3) := by decide +kernel
theorem dX0_knows_9 : decode cX0_knows 9 = .ok (.iaload, 1) := by decide +kernel
theorem dX0_knows_10 : decode cX0_knows 10 = .ok (.iload_n 1, 1) := by decide +kernel
theorem dX0_knows_11 : decode cX0_knows 11 = .ok (.invokestatic 28, 3) := by decide +kernel
theorem dX0_knows_14 : decode cX0_knows 14 = .ok (.if_icmp .ne 7, 3) := by decide +kernel
theorem dX0_knows_17 : decode cX0_knows 17 = .ok (.iconst 1, 1) := by decide +kernel
theorem dX0_knows_18 : decode cX0_knows 18 = .ok (.goto 4, 3) := by decide +kernel
theorem dX0_knows_21 : decode cX0_knows 21 = .ok (.iconst 0, 1) := by decide +kernel
theorem dX0_knows_22 : decode cX0_knows 22 = .ok (.ireturn, 1) := by decide +kernel
theorem dX0_indexFor_0 : decode cX0_indexFor 0 = .ok (.aload_n 0, 1) := by decide +kernel
theorem dX0_indexFor_1 : decode cX0_indexFor 1 = .ok (.getfield 31, 3) := by decide +kernel
theorem dX0_indexFor_4 : decode cX0_indexFor 4 = .ok (.aload_n 0, 1) := by decide +kernel
theorem dX0_indexFor_5 : decode cX0_indexFor 5 = .ok (.getfield 31, 3) := by decide +kernel
theorem dX0_indexFor_8 : decode cX0_indexFor 8 = .ok (.bipush 6, 2) := by decide +kernel
theorem dX0_indexFor_10 : decode cX0_indexFor 10 = .ok (.iushr, 1) := by decide +kernel
theorem dX0_indexFor_11 : decode cX0_indexFor 11 = .ok (.ixor, 1) := by decide +kernel
theorem dX0_indexFor_12 : decode cX0_indexFor 12 = .ok (.aload_n 0, 1) := by decide +kernel
theorem dX0_indexFor_13 : decode cX0_indexFor 13 = .ok (.getfield 31, 3) := by decide +kernel
theorem dX0_indexFor_16 : decode cX0_indexFor 16 = .ok (.bipush 12, 2) := by decide +kernel
theorem dX0_indexFor_18 : decode cX0_indexFor 18 = .ok (.iushr, 1) := by decide +kernel
theorem dX0_indexFor_19 : decode cX0_indexFor 19 = .ok (.ixor, 1) := by decide +kernel
theorem dX0_indexFor_20 : decode cX0_indexFor 20 = .ok (.aload_n 0, 1) := by decide +kernel
theorem dX0_indexFor_21 : decode cX0_indexFor 21 = .ok (.getfield 31, 3) := by decide +kernel
theorem dX0_indexFor_24 : decode cX0_indexFor 24 = .ok (.bipush 18, 2) := by decide +kernel
theorem dX0_indexFor_26 : decode cX0_indexFor 26 = .ok (.iushr, 1) := by decide +kernel
theorem dX0_indexFor_27 : decode cX0_indexFor 27 = .ok (.ixor, 1) := by decide +kernel
theorem dX0_indexFor_28 : decode cX0_indexFor 28 = .ok (.istore_n 2, 1) := by decide +kernel
theorem dX0_indexFor_29 : decode cX0_indexFor 29 = .ok (.iload_n 1, 1) := by decide +kernel
theorem dX0_indexFor_30 : decode cX0_indexFor 30 = .ok (.iconst 2, 1) := by decide +kernel
theorem dX0_indexFor_31 : decode cX0_indexFor 31 = .ok (.iushr, 1) := by decide +kernel
theorem dX0_indexFor_32 : decode cX0_indexFor 32 = .ok (.iload_n 2, 1) := by decide +kernel
theorem dX0_indexFor_33 : decode cX0_indexFor 33 = .ok (.ixor, 1) := by decide +kernel
theorem dX0_indexFor_34 : decode cX0_indexFor 34 = .ok (.bipush 63, 2) := by decide +kernel
theorem dX0_indexFor_36 : decode cX0_indexFor 36 = .ok (.iand, 1) := by decide +kernel
theorem dX0_indexFor_37 : decode cX0_indexFor 37 = .ok (.ireturn, 1) := by decide +kernel
theorem dX0_tagOf_0 : decode cX0_tagOf 0 = .ok (.iload_n 0, 1) := by decide +kernel
theorem dX0_tagOf_1 : decode cX0_tagOf 1 = .ok (.bipush 8, 2) := by decide +kernel
theorem dX0_tagOf_3 : decode cX0_tagOf 3 = .ok (.iushr, 1) := by decide +kernel
theorem dX0_tagOf_4 : decode cX0_tagOf 4 = .ok (.sipush 255, 3) := by decide +kernel
theorem dX0_tagOf_7 : decode cX0_tagOf 7 = .ok (.iand, 1) := by decide +kernel
theorem dX0_tagOf_8 : decode cX0_tagOf 8 = .ok (.ireturn, 1) := by decide +kernel
theorem dX0_targetFor_0 : decode cX0_targetFor 0 = .ok (.aload_n 0, 1) := by decide +kernel
theorem dX0_targetFor_1 : decode cX0_targetFor 1 = .ok (.getfield 15, 3) := by decide +kernel
theorem dX0_targetFor_4 : decode cX0_targetFor 4 = .ok (.aload_n 0, 1) := by decide +kernel
theorem dX0_targetFor_5 : decode cX0_targetFor 5 = .ok (.iload_n 1, 1) := by decide +kernel
theorem dX0_targetFor_6 : decode cX0_targetFor 6 = .ok (.invokevirtual 24, 3) := by decide +kernel
theorem dX0_targetFor_9 : decode cX0_targetFor 9 = .ok (.iaload, 1) := by decide +kernel
theorem dX0_targetFor_10 : decode cX0_targetFor 10 = .ok (.ireturn, 1) := by decide +kernel
theorem dX4_flush_0 : decode cX4_flush 0 = .ok (.aload_n 0, 1) := by decide +kernel
theorem dX4_flush_1 : decode cX4_flush 1 = .ok (.getfield 43, 3) := by decide +kernel
theorem dX4_flush_4 : decode cX4_flush 4 = .ok (.getfield 58, 3) := by decide +kernel
theorem dX4_flush_7 : decode cX4_flush 7 = .ok (.istore_n 1, 1) := by decide +kernel
theorem dX4_flush_8 : decode cX4_flush 8 = .ok (.iload_n 1, 1) := by decide +kernel
theorem dX4_flush_9 : decode cX4_flush 9 = .ok (.ifCond .le 31, 3) := by decide +kernel
theorem dX4_flush_12 : decode cX4_flush 12 = .ok (.aload_n 0, 1) := by decide +kernel
theorem dX4_flush_13 : decode cX4_flush 13 = .ok (.getfield 43, 3) := by decide +kernel
theorem dX4_flush_16 : decode cX4_flush 16 = .ok (.aload_n 0, 1) := by decide +kernel
theorem dX4_flush_17 : decode cX4_flush 17 = .ok (.getfield 36, 3) := by decide +kernel
theorem dX4_flush_20 : decode cX4_flush 20 = .ok (.invokevirtual 116, 3) := by decide +kernel
theorem dX4_flush_23 : decode cX4_flush 23 = .ok (.aload_n 0, 1) := by decide +kernel
theorem dX4_flush_24 : decode cX4_flush 24 = .ok (.getfield 43, 3) := by decide +kernel
theorem dX4_flush_27 : decode cX4_flush 27 = .ok (.invokevirtual 120, 3) := by decide +kernel
theorem dX4_flush_30 : decode cX4_flush 30 = .ok (.aload_n 0, 1) := by decide +kernel
theorem dX4_flush_31 : decode cX4_flush 31 = .ok (.dup, 1) := by decide +kernel
theorem dX4_flush_32 : decode cX4_flush 32 = .ok (.getfield 123, 3) := by decide +kernel
theorem dX4_flush_35 : decode cX4_flush 35 = .ok (.iload_n 1, 1) := by decide +kernel
theorem dX4_flush_36 : decode cX4_flush 36 = .ok (.iadd, 1) := by decide +kernel
theorem dX4_flush_37 : decode cX4_flush 37 = .ok (.putfield 123, 3) := by decide +kernel
theorem dX4_flush_40 : decode cX4_flush 40 = .ok (.iload_n 1, 1) := by decide +kernel
theorem dX4_flush_41 : decode cX4_flush 41 = .ok (.ireturn, 1) := by decide +kernel
theorem dX1_giveBack_0 : decode cX1_giveBack 0 = .ok (.aload_n 1, 1) := by decide +kernel
theorem dX1_giveBack_1 : decode cX1_giveBack 1 = .ok (.aload_n 0, 1) := by decide +kernel
theorem dX1_giveBack_2 : decode cX1_giveBack 2 = .ok (.getfield 25, 3) := by decide +kernel
theorem dX1_giveBack_5 : decode cX1_giveBack 5 = .ok (.aload_n 0, 1) := by decide +kernel
theorem dX1_giveBack_6 : decode cX1_giveBack 6 = .ok (.getfield 44, 3) := by decide +kernel
theorem dX1_giveBack_9 : decode cX1_giveBack 9 = .ok (.aload_n 0, 1) := by decide +kernel
theorem dX1_giveBack_10 : decode cX1_giveBack 10 = .ok (.getfield 9, 3) := by decide +kernel
theorem dX1_giveBack_13 : decode cX1_giveBack 13 = .ok (.imul, 1) := by decide +kernel
theorem dX1_giveBack_14 : decode cX1_giveBack 14 = .ok (.aload_n 0, 1) := by decide +kernel
theorem dX1_giveBack_15 : decode cX1_giveBack 15 = .ok (.getfield 22, 3) := by decide +kernel
theorem dX1_giveBack_18 : decode cX1_giveBack 18 = .ok (.aload_n 0, 1) := by decide +kernel
theorem dX1_giveBack_19 : decode cX1_giveBack 19 = .ok (.getfield 44, 3) := by decide +kernel
theorem dX1_giveBack_22 : decode cX1_giveBack 22 = .ok (.iaload, 1) := by decide +kernel
theorem dX1_giveBack_23 : decode cX1_giveBack 23 = .ok (.invokevirtual 47, 3) := by decide +kernel
theorem dX1_giveBack_26 : decode cX1_giveBack 26 = .ok (.return_, 1) := by decide +kernel
theorem dX2_copyFrom_0 : decode cX2_copyFrom 0 = .ok (.aload_n 1, 1) := by decide +kernel
theorem dX2_copyFrom_1 : decode cX2_copyFrom 1 = .ok (.iload_n 2, 1) := by decide +kernel
theorem dX2_copyFrom_2 : decode cX2_copyFrom 2 = .ok (.aload_n 0, 1) := by decide +kernel
theorem dX2_copyFrom_3 : decode cX2_copyFrom 3 = .ok (.getfield 13, 3) := by decide +kernel
theorem dX2_copyFrom_6 : decode cX2_copyFrom 6 = .ok (.iconst 0, 1) := by decide +kernel
theorem dX2_copyFrom_7 : decode cX2_copyFrom 7 = .ok (.iload_n 3, 1) := by decide +kernel
theorem dX2_copyFrom_8 : decode cX2_copyFrom 8 = .ok (.invokestatic 29, 3) := by decide +kernel
theorem dX2_copyFrom_11 : decode cX2_copyFrom 11 = .ok (.aload_n 0, 1) := by decide +kernel
theorem dX2_copyFrom_12 : decode cX2_copyFrom 12 = .ok (.iload_n 3, 1) := by decide +kernel
theorem dX2_copyFrom_13 : decode cX2_copyFrom 13 = .ok (.putfield 17, 3) := by decide +kernel
theorem dX2_copyFrom_16 : decode cX2_copyFrom 16 = .ok (.return_, 1) := by decide +kernel
theorem dX1_clear_0 : decode cX1_clear 0 = .ok (.aload_n 0, 1) := by decide +kernel
theorem dX1_clear_1 : decode cX1_clear 1 = .ok (.iconst 0, 1) := by decide +kernel
theorem dX1_clear_2 : decode cX1_clear 2 = .ok (.putfield 28, 3) := by decide +kernel
theorem dX1_clear_5 : decode cX1_clear 5 = .ok (.return_, 1) := by decide +kernel
theorem dX4_storage_0 : decode cX4_storage 0 = .ok (.aload_n 0, 1) := by decide +kernel
theorem dX4_storage_1 : decode cX4_storage 1 = .ok (.getfield 18, 3) := by decide +kernel
theorem dX4_storage_4 : decode cX4_storage 4 = .ok (.getfield 126, 3) := by decide +kernel
theorem dX4_storage_7 : decode cX4_storage 7 = .ok (.aload_n 0, 1) := by decide +kernel
theorem dX4_storage_8 : decode cX4_storage 8 = .ok (.getfield 18, 3) := by decide +kernel
theorem dX4_storage_11 : decode cX4_storage 11 = .ok (.getfield 129, 3) := by decide +kernel
theorem dX4_storage_14 : decode cX4_storage 14 = .ok (.imul, 1) := by decide +kernel
theorem dX4_storage_15 : decode cX4_storage 15 = .ok (.bipush 42, 2) := by decide +kernel
theorem dX4_storage_17 : decode cX4_storage 17 = .ok (.imul, 1) := by decide +kernel
theorem dX4_storage_18 : decode cX4_storage 18 = .ok (.sipush 2560, 3) := by decide +kernel
theorem dX4_storage_21 : decode cX4_storage 21 = .ok (.iadd, 1) := by decide +kernel
theorem dX4_storage_22 : decode cX4_storage 22 = .ok (.aload_n 0, 1) := by decide +kernel
theorem dX4_storage_23 : decode cX4_storage 23 = .ok (.getfield 36, 3) := by decide +kernel
theorem dX4_storage_26 : decode cX4_storage 26 = .ok (.getfield 159, 3) := by decide +kernel
theorem dX4_storage_29 : decode cX4_storage 29 = .ok (.bipush 32, 2) := by decide +kernel
theorem dX4_storage_31 : decode cX4_storage 31 = .ok (.imul, 1) := by decide +kernel
theorem dX4_storage_32 : decode cX4_storage 32 = .ok (.iadd, 1) := by decide +kernel
theorem dX4_storage_33 : decode cX4_storage 33 = .ok (.bipush 24, 2) := by decide +kernel
theorem dX4_storage_35 : decode cX4_storage 35 = .ok (.iadd, 1) := by decide +kernel
theorem dX4_storage_36 : decode cX4_storage 36 = .ok (.ireturn, 1) := by decide +kernel
theorem dX4_count_0 : decode cX4_count 0 = .ok (.iload_n 1, 1) := by decide +kernel
theorem dX4_count_1 : decode cX4_count 1 = .ok (.iconst 1, 1) := by decide +kernel
theorem dX4_count_2 : decode cX4_count 2 = .ok (.if_icmp .lt 21, 3) := by decide +kernel
theorem dX4_count_5 : decode cX4_count 5 = .ok (.iload_n 1, 1) := by decide +kernel
theorem dX4_count_6 : decode cX4_count 6 = .ok (.aload_n 0, 1) := by decide +kernel
theorem dX4_count_7 : decode cX4_count 7 = .ok (.getfield 47, 3) := by decide +kernel
theorem dX4_count_10 : decode cX4_count 10 = .ok (.arraylength, 1) := by decide +kernel
theorem dX4_count_11 : decode cX4_count 11 = .ok (.if_icmp .gt 12, 3) := by decide +kernel
theorem dX4_count_14 : decode cX4_count 14 = .ok (.aload_n 0, 1) := by decide +kernel
theorem dX4_count_15 : decode cX4_count 15 = .ok (.getfield 47, 3) := by decide +kernel
theorem dX4_count_18 : decode cX4_count 18 = .ok (.iload_n 1, 1) := by decide +kernel
theorem dX4_count_19 : decode cX4_count 19 = .ok (.iconst 1, 1) := by decide +kernel
theorem dX4_count_20 : decode cX4_count 20 = .ok (.isub, 1) := by decide +kernel
theorem dX4_count_21 : decode cX4_count 21 = .ok (.iaload, 1) := by decide +kernel
theorem dX4_count_22 : decode cX4_count 22 = .ok (.ireturn, 1) := by decide +kernel
theorem dX4_count_23 : decode cX4_count 23 = .ok (.iload_n 1, 1) := by decide +kernel
theorem dX4_count_24 : decode cX4_count 24 = .ok (.tableswitch 170 0 17 #[88, 170, 170, 170, 170, 170, 170, 170, 93, 101, 109, 117, 125, 133, 141, 146, 154, 162], 88) := by decide +kernel
theorem dX4_count_112 : decode cX4_count 112 = .ok (.aload_n 0, 1) := by decide +kernel
theorem dX4_count_113 : decode cX4_count 113 = .ok (.getfield 113, 3) := by decide +kernel
theorem dX4_count_116 : decode cX4_count 116 = .ok (.ireturn, 1) := by decide +kernel
theorem dX4_count_117 : decode cX4_count 117 = .ok (.aload_n 0, 1) := by decide +kernel
theorem dX4_count_118 : decode cX4_count 118 = .ok (.getfield 36, 3) := by decide +kernel
theorem dX4_count_121 : decode cX4_count 121 = .ok (.getfield 162, 3) := by decide +kernel
theorem dX4_count_124 : decode cX4_count 124 = .ok (.ireturn, 1) := by decide +kernel
theorem dX4_count_125 : decode cX4_count 125 = .ok (.aload_n 0, 1) := by decide +kernel
theorem dX4_count_126 : decode cX4_count 126 = .ok (.getfield 36, 3) := by decide +kernel
theorem dX4_count_129 : decode cX4_count 129 = .ok (.getfield 165, 3) := by decide +kernel
theorem dX4_count_132 : decode cX4_count 132 = .ok (.ireturn, 1) := by decide +kernel
theorem dX4_count_133 : decode cX4_count 133 = .ok (.aload_n 0, 1) := by decide +kernel
theorem dX4_count_134 : decode cX4_count 134 = .ok (.getfield 43, 3) := by decide +kernel
theorem dX4_count_137 : decode cX4_count 137 = .ok (.getfield 58, 3) := by decide +kernel
theorem dX4_count_140 : decode cX4_count 140 = .ok (.ireturn, 1) := by decide +kernel
theorem dX4_count_141 : decode cX4_count 141 = .ok (.aload_n 0, 1) := by decide +kernel
theorem dX4_count_142 : decode cX4_count 142 = .ok (.getfield 36, 3) := by decide +kernel

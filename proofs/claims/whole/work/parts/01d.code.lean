theorem dX3_put_34 : decode cX3_put 34 = .ok (.iaload, 1) := by decide +kernel
theorem dX3_put_35 : decode cX3_put 35 = .ok (.iconst (-1), 1) := by decide +kernel
theorem dX3_put_36 : decode cX3_put 36 = .ok (.if_icmp .ne 13, 3) := by decide +kernel
theorem dX3_put_39 : decode cX3_put 39 = .ok (.aload_n 0, 1) := by decide +kernel
theorem dX3_put_40 : decode cX3_put 40 = .ok (.dup, 1) := by decide +kernel
theorem dX3_put_41 : decode cX3_put 41 = .ok (.getfield 53, 3) := by decide +kernel
theorem dX3_put_44 : decode cX3_put 44 = .ok (.iconst 1, 1) := by decide +kernel
theorem dX3_put_45 : decode cX3_put 45 = .ok (.iadd, 1) := by decide +kernel
theorem dX3_put_46 : decode cX3_put 46 = .ok (.putfield 53, 3) := by decide +kernel
theorem dX3_put_49 : decode cX3_put 49 = .ok (.aload_n 0, 1) := by decide +kernel
theorem dX3_put_50 : decode cX3_put 50 = .ok (.getfield 21, 3) := by decide +kernel
theorem dX3_put_53 : decode cX3_put 53 = .ok (.iload 4, 2) := by decide +kernel
theorem dX3_put_55 : decode cX3_put 55 = .ok (.aload_n 0, 1) := by decide +kernel
theorem dX3_put_56 : decode cX3_put 56 = .ok (.iload_n 1, 1) := by decide +kernel
theorem dX3_put_57 : decode cX3_put 57 = .ok (.invokevirtual 44, 3) := by decide +kernel
theorem dX3_put_60 : decode cX3_put 60 = .ok (.iastore, 1) := by decide +kernel
theorem dX3_put_61 : decode cX3_put 61 = .ok (.aload_n 0, 1) := by decide +kernel
theorem dX3_put_62 : decode cX3_put 62 = .ok (.getfield 25, 3) := by decide +kernel
theorem dX3_put_65 : decode cX3_put 65 = .ok (.iload 4, 2) := by decide +kernel
theorem dX3_put_67 : decode cX3_put 67 = .ok (.iload_n 2, 1) := by decide +kernel
theorem dX3_put_68 : decode cX3_put 68 = .ok (.iastore, 1) := by decide +kernel
theorem dX3_put_69 : decode cX3_put 69 = .ok (.aload_n 0, 1) := by decide +kernel
theorem dX3_put_70 : decode cX3_put 70 = .ok (.getfield 28, 3) := by decide +kernel
theorem dX3_put_73 : decode cX3_put 73 = .ok (.iload 4, 2) := by decide +kernel
theorem dX3_put_75 : decode cX3_put 75 = .ok (.iload_n 3, 1) := by decide +kernel
theorem dX3_put_76 : decode cX3_put 76 = .ok (.iastore, 1) := by decide +kernel
theorem dX3_put_77 : decode cX3_put 77 = .ok (.aload_n 0, 1) := by decide +kernel
theorem dX3_put_78 : decode cX3_put 78 = .ok (.dup, 1) := by decide +kernel
theorem dX3_put_79 : decode cX3_put 79 = .ok (.getfield 56, 3) := by decide +kernel
theorem dX3_put_82 : decode cX3_put 82 = .ok (.iconst 1, 1) := by decide +kernel
theorem dX3_put_83 : decode cX3_put 83 = .ok (.iadd, 1) := by decide +kernel
theorem dX3_put_84 : decode cX3_put 84 = .ok (.putfield 56, 3) := by decide +kernel
theorem dX3_put_87 : decode cX3_put 87 = .ok (.aload_n 0, 1) := by decide +kernel
theorem dX3_put_88 : decode cX3_put 88 = .ok (.getfield 31, 3) := by decide +kernel
theorem dX3_put_91 : decode cX3_put 91 = .ok (.iload 4, 2) := by decide +kernel
theorem dX3_put_93 : decode cX3_put 93 = .ok (.aload_n 0, 1) := by decide +kernel
theorem dX3_put_94 : decode cX3_put 94 = .ok (.getfield 56, 3) := by decide +kernel
theorem dX3_put_97 : decode cX3_put 97 = .ok (.iastore, 1) := by decide +kernel
theorem dX3_put_98 : decode cX3_put 98 = .ok (.return_, 1) := by decide +kernel
theorem dX3_slotToFill_0 : decode cX3_slotToFill 0 = .ok (.aload_n 0, 1) := by decide +kernel
theorem dX3_slotToFill_1 : decode cX3_slotToFill 1 = .ok (.iload_n 1, 1) := by decide +kernel
theorem dX3_slotToFill_2 : decode cX3_slotToFill 2 = .ok (.invokevirtual 40, 3) := by decide +kernel
theorem dX3_slotToFill_5 : decode cX3_slotToFill 5 = .ok (.istore_n 2, 1) := by decide +kernel
theorem dX3_slotToFill_6 : decode cX3_slotToFill 6 = .ok (.iload_n 2, 1) := by decide +kernel
theorem dX3_slotToFill_7 : decode cX3_slotToFill 7 = .ok (.istore_n 3, 1) := by decide +kernel
theorem dX3_slotToFill_8 : decode cX3_slotToFill 8 = .ok (.iload_n 2, 1) := by decide +kernel
theorem dX3_slotToFill_9 : decode cX3_slotToFill 9 = .ok (.iconst 1, 1) := by decide +kernel
theorem dX3_slotToFill_10 : decode cX3_slotToFill 10 = .ok (.iadd, 1) := by decide +kernel
theorem dX3_slotToFill_11 : decode cX3_slotToFill 11 = .ok (.istore 4, 2) := by decide +kernel
theorem dX3_slotToFill_13 : decode cX3_slotToFill 13 = .ok (.iload 4, 2) := by decide +kernel
theorem dX3_slotToFill_15 : decode cX3_slotToFill 15 = .ok (.iload_n 2, 1) := by decide +kernel
theorem dX3_slotToFill_16 : decode cX3_slotToFill 16 = .ok (.aload_n 0, 1) := by decide +kernel
theorem dX3_slotToFill_17 : decode cX3_slotToFill 17 = .ok (.getfield 18, 3) := by decide +kernel
theorem dX3_slotToFill_20 : decode cX3_slotToFill 20 = .ok (.iadd, 1) := by decide +kernel
theorem dX3_slotToFill_21 : decode cX3_slotToFill 21 = .ok (.if_icmp .ge 28, 3) := by decide +kernel
theorem dX3_slotToFill_24 : decode cX3_slotToFill 24 = .ok (.aload_n 0, 1) := by decide +kernel
theorem dX3_slotToFill_25 : decode cX3_slotToFill 25 = .ok (.getfield 31, 3) := by decide +kernel
theorem dX3_slotToFill_28 : decode cX3_slotToFill 28 = .ok (.iload 4, 2) := by decide +kernel
theorem dX3_slotToFill_30 : decode cX3_slotToFill 30 = .ok (.iaload, 1) := by decide +kernel
theorem dX3_slotToFill_31 : decode cX3_slotToFill 31 = .ok (.aload_n 0, 1) := by decide +kernel
theorem dX3_slotToFill_32 : decode cX3_slotToFill 32 = .ok (.getfield 31, 3) := by decide +kernel
theorem dX3_slotToFill_35 : decode cX3_slotToFill 35 = .ok (.iload_n 3, 1) := by decide +kernel
theorem dX3_slotToFill_36 : decode cX3_slotToFill 36 = .ok (.iaload, 1) := by decide +kernel
theorem dX3_slotToFill_37 : decode cX3_slotToFill 37 = .ok (.if_icmp .ge 6, 3) := by decide +kernel
theorem dX3_slotToFill_40 : decode cX3_slotToFill 40 = .ok (.iload 4, 2) := by decide +kernel
theorem dX3_slotToFill_42 : decode cX3_slotToFill 42 = .ok (.istore_n 3, 1) := by decide +kernel
theorem dX3_slotToFill_43 : decode cX3_slotToFill 43 = .ok (.iinc 4 1, 3) := by decide +kernel
theorem dX3_slotToFill_46 : decode cX3_slotToFill 46 = .ok (.goto (-33), 3) := by decide +kernel
theorem dX3_slotToFill_49 : decode cX3_slotToFill 49 = .ok (.iload_n 3, 1) := by decide +kernel
theorem dX3_slotToFill_50 : decode cX3_slotToFill 50 = .ok (.ireturn, 1) := by decide +kernel
theorem dX0_put_0 : decode cX0_put 0 = .ok (.aload_n 0, 1) := by decide +kernel
theorem dX0_put_1 : decode cX0_put 1 = .ok (.iload_n 1, 1) := by decide +kernel
theorem dX0_put_2 : decode cX0_put 2 = .ok (.invokevirtual 24, 3) := by decide +kernel
theorem dX0_put_5 : decode cX0_put 5 = .ok (.istore_n 3, 1) := by decide +kernel
theorem dX0_put_6 : decode cX0_put 6 = .ok (.aload_n 0, 1) := by decide +kernel
theorem dX0_put_7 : decode cX0_put 7 = .ok (.getfield 9, 3) := by decide +kernel
theorem dX0_put_10 : decode cX0_put 10 = .ok (.iload_n 3, 1) := by decide +kernel
theorem dX0_put_11 : decode cX0_put 11 = .ok (.iload_n 1, 1) := by decide +kernel
theorem dX0_put_12 : decode cX0_put 12 = .ok (.invokestatic 28, 3) := by decide +kernel
theorem dX0_put_15 : decode cX0_put 15 = .ok (.iastore, 1) := by decide +kernel
theorem dX0_put_16 : decode cX0_put 16 = .ok (.aload_n 0, 1) := by decide +kernel
theorem dX0_put_17 : decode cX0_put 17 = .ok (.getfield 15, 3) := by decide +kernel
theorem dX0_put_20 : decode cX0_put 20 = .ok (.iload_n 3, 1) := by decide +kernel
theorem dX0_put_21 : decode cX0_put 21 = .ok (.iload_n 2, 1) := by decide +kernel
theorem dX0_put_22 : decode cX0_put 22 = .ok (.iastore, 1) := by decide +kernel
theorem dX0_put_23 : decode cX0_put 23 = .ok (.return_, 1) := by decide +kernel
theorem dX0_remember_0 : decode cX0_remember 0 = .ok (.aload_n 0, 1) := by decide +kernel
theorem dX0_remember_1 : decode cX0_remember 1 = .ok (.aload_n 0, 1) := by decide +kernel
theorem dX0_remember_2 : decode cX0_remember 2 = .ok (.getfield 31, 3) := by decide +kernel
theorem dX0_remember_5 : decode cX0_remember 5 = .ok (.iconst 3, 1) := by decide +kernel
theorem dX0_remember_6 : decode cX0_remember 6 = .ok (.ishl, 1) := by decide +kernel
theorem dX0_remember_7 : decode cX0_remember 7 = .ok (.iload_n 1, 1) := by decide +kernel
theorem dX0_remember_8 : decode cX0_remember 8 = .ok (.iconst 2, 1) := by decide +kernel
theorem dX0_remember_9 : decode cX0_remember 9 = .ok (.iushr, 1) := by decide +kernel
theorem dX0_remember_10 : decode cX0_remember 10 = .ok (.ixor, 1) := by decide +kernel
theorem dX0_remember_11 : decode cX0_remember 11 = .ok (.ldc 35, 2) := by decide +kernel
theorem dX0_remember_13 : decode cX0_remember 13 = .ok (.iand, 1) := by decide +kernel
theorem dX0_remember_14 : decode cX0_remember 14 = .ok (.putfield 31, 3) := by decide +kernel
theorem dX0_remember_17 : decode cX0_remember 17 = .ok (.return_, 1) := by decide +kernel
theorem dL_entry_0 : decode cL_entry 0 = .ok (.aload 4, 2) := by decide +kernel
theorem dL_entry_2 : decode cL_entry 2 = .ok (.iconst 0, 1) := by decide +kernel
theorem dL_entry_3 : decode cL_entry 3 = .ok (.aload_n 0, 1) := by decide +kernel
theorem dL_entry_4 : decode cL_entry 4 = .ok (.iload_n 1, 1) := by decide +kernel
theorem dL_entry_5 : decode cL_entry 5 = .ok (.iload_n 2, 1) := by decide +kernel
theorem dL_entry_6 : decode cL_entry 6 = .ok (.iload_n 3, 1) := by decide +kernel
theorem dL_entry_7 : decode cL_entry 7 = .ok (.invokevirtual 23, 3) := by decide +kernel
theorem dL_entry_10 : decode cL_entry 10 = .ok (.i2l, 1) := by decide +kernel
theorem dL_entry_11 : decode cL_entry 11 = .ok (.lastore, 1) := by decide +kernel
theorem dL_entry_12 : decode cL_entry 12 = .ok (.goto 7, 3) := by decide +kernel
theorem dL_entry_15 : decode cL_entry 15 = .ok (.astore 5, 2) := by decide +kernel
theorem dL_entry_17 : decode cL_entry 17 = .ok (.iconst 1, 1) := by decide +kernel
theorem dL_entry_18 : decode cL_entry 18 = .ok (.ireturn, 1) := by decide +kernel
theorem dL_entry_19 : decode cL_entry 19 = .ok (.iconst 0, 1) := by decide +kernel
theorem dL_entry_20 : decode cL_entry 20 = .ok (.ireturn, 1) := by decide +kernel
theorem dX4_entry_0 : decode cX4_entry 0 = .ok (.iload_n 1, 1) := by decide +kernel
theorem dX4_entry_1 : decode cX4_entry 1 = .ok (.ifCond .lt 29, 3) := by decide +kernel
theorem dX4_entry_4 : decode cX4_entry 4 = .ok (.iload_n 1, 1) := by decide +kernel
theorem dX4_entry_5 : decode cX4_entry 5 = .ok (.aload_n 0, 1) := by decide +kernel
theorem dX4_entry_6 : decode cX4_entry 6 = .ok (.getfield 18, 3) := by decide +kernel
theorem dX4_entry_9 : decode cX4_entry 9 = .ok (.getfield 126, 3) := by decide +kernel
theorem dX4_entry_12 : decode cX4_entry 12 = .ok (.if_icmp .ge 18, 3) := by decide +kernel
theorem dX4_entry_15 : decode cX4_entry 15 = .ok (.iload_n 2, 1) := by decide +kernel
theorem dX4_entry_16 : decode cX4_entry 16 = .ok (.ifCond .lt 14, 3) := by decide +kernel
theorem dX4_entry_19 : decode cX4_entry 19 = .ok (.iload_n 2, 1) := by decide +kernel
theorem dX4_entry_20 : decode cX4_entry 20 = .ok (.aload_n 0, 1) := by decide +kernel
theorem dX4_entry_21 : decode cX4_entry 21 = .ok (.getfield 18, 3) := by decide +kernel
theorem dX4_entry_24 : decode cX4_entry 24 = .ok (.getfield 129, 3) := by decide +kernel
theorem dX4_entry_27 : decode cX4_entry 27 = .ok (.if_icmp .lt 13, 3) := by decide +kernel
theorem dX4_entry_30 : decode cX4_entry 30 = .ok (.new 132, 3) := by decide +kernel
theorem dX4_entry_33 : decode cX4_entry 33 = .ok (.dup, 1) := by decide +kernel
theorem dX4_entry_34 : decode cX4_entry 34 = .ok (.ldc 134, 2) := by decide +kernel
theorem dX4_entry_36 : decode cX4_entry 36 = .ok (.invokespecial 136, 3) := by decide +kernel
theorem dX4_entry_39 : decode cX4_entry 39 = .ok (.athrow, 1) := by decide +kernel
theorem dX4_entry_40 : decode cX4_entry 40 = .ok (.iload_n 3, 1) := by decide +kernel
theorem dX4_entry_41 : decode cX4_entry 41 = .ok (.ifCond .lt 8, 3) := by decide +kernel
theorem dX4_entry_44 : decode cX4_entry 44 = .ok (.iload_n 3, 1) := by decide +kernel
theorem dX4_entry_45 : decode cX4_entry 45 = .ok (.iconst 2, 1) := by decide +kernel
theorem dX4_entry_46 : decode cX4_entry 46 = .ok (.if_icmp .le 13, 3) := by decide +kernel
theorem dX4_entry_49 : decode cX4_entry 49 = .ok (.new 132, 3) := by decide +kernel
theorem dX4_entry_52 : decode cX4_entry 52 = .ok (.dup, 1) := by decide +kernel
theorem dX4_entry_53 : decode cX4_entry 53 = .ok (.ldc 137, 2) := by decide +kernel
theorem dX4_entry_55 : decode cX4_entry 55 = .ok (.invokespecial 136, 3) := by decide +kernel
theorem dX4_entry_58 : decode cX4_entry 58 = .ok (.athrow, 1) := by decide +kernel
theorem dX4_entry_59 : decode cX4_entry 59 = .ok (.iload_n 1, 1) := by decide +kernel
theorem dX4_entry_60 : decode cX4_entry 60 = .ok (.aload_n 0, 1) := by decide +kernel
theorem dX4_entry_61 : decode cX4_entry 61 = .ok (.getfield 18, 3) := by decide +kernel
theorem dX4_entry_64 : decode cX4_entry 64 = .ok (.getfield 129, 3) := by decide +kernel
theorem dX4_entry_67 : decode cX4_entry 67 = .ok (.imul, 1) := by decide +kernel
theorem dX4_entry_68 : decode cX4_entry 68 = .ok (.iload_n 2, 1) := by decide +kernel
theorem dX4_entry_69 : decode cX4_entry 69 = .ok (.iadd, 1) := by decide +kernel
theorem dX4_entry_70 : decode cX4_entry 70 = .ok (.istore 4, 2) := by decide +kernel
theorem dX4_entry_72 : decode cX4_entry 72 = .ok (.iload_n 3, 1) := by decide +kernel
theorem dX4_entry_73 : decode cX4_entry 73 = .ok (.ifCond .ne 14, 3) := by decide +kernel
theorem dX4_entry_76 : decode cX4_entry 76 = .ok (.aload_n 0, 1) := by decide +kernel
theorem dX4_entry_77 : decode cX4_entry 77 = .ok (.getfield 18, 3) := by decide +kernel
theorem dX4_entry_80 : decode cX4_entry 80 = .ok (.getfield 139, 3) := by decide +kernel
theorem dX4_entry_83 : decode cX4_entry 83 = .ok (.iload 4, 2) := by decide +kernel
theorem dX4_entry_85 : decode cX4_entry 85 = .ok (.iaload, 1) := by decide +kernel
theorem dX4_entry_86 : decode cX4_entry 86 = .ok (.ireturn, 1) := by decide +kernel
theorem dX4_entry_87 : decode cX4_entry 87 = .ok (.iload_n 3, 1) := by decide +kernel
theorem dX4_entry_88 : decode cX4_entry 88 = .ok (.iconst 1, 1) := by decide +kernel
theorem dX4_entry_89 : decode cX4_entry 89 = .ok (.if_icmp .ne 16, 3) := by decide +kernel
theorem dX4_entry_92 : decode cX4_entry 92 = .ok (.aload_n 0, 1) := by decide +kernel
theorem dX4_entry_93 : decode cX4_entry 93 = .ok (.getfield 18, 3) := by decide +kernel
theorem dX4_entry_96 : decode cX4_entry 96 = .ok (.getfield 73, 3) := by decide +kernel
theorem dX4_entry_99 : decode cX4_entry 99 = .ok (.iload 4, 2) := by decide +kernel
theorem dX4_entry_101 : decode cX4_entry 101 = .ok (.iaload, 1) := by decide +kernel
theorem dX4_entry_102 : decode cX4_entry 102 = .ok (.goto 13, 3) := by decide +kernel
theorem dX4_entry_105 : decode cX4_entry 105 = .ok (.aload_n 0, 1) := by decide +kernel
theorem dX4_entry_106 : decode cX4_entry 106 = .ok (.getfield 18, 3) := by decide +kernel
theorem dX4_entry_109 : decode cX4_entry 109 = .ok (.getfield 142, 3) := by decide +kernel
theorem dX4_entry_112 : decode cX4_entry 112 = .ok (.iload 4, 2) := by decide +kernel
theorem dX4_entry_114 : decode cX4_entry 114 = .ok (.iaload, 1) := by decide +kernel
theorem dX4_entry_115 : decode cX4_entry 115 = .ok (.ireturn, 1) := by decide +kernel
theorem dL_row_0 : decode cL_row 0 = .ok (.aload_n 3, 1) := by decide +kernel
theorem dL_row_1 : decode cL_row 1 = .ok (.iconst 0, 1) := by decide +kernel
theorem dL_row_2 : decode cL_row 2 = .ok (.aload_n 0, 1) := by decide +kernel
theorem dL_row_3 : decode cL_row 3 = .ok (.iload_n 1, 1) := by decide +kernel
theorem dL_row_4 : decode cL_row 4 = .ok (.iload_n 2, 1) := by decide +kernel
theorem dL_row_5 : decode cL_row 5 = .ok (.invokevirtual 29, 3) := by decide +kernel
theorem dL_row_8 : decode cL_row 8 = .ok (.i2l, 1) := by decide +kernel
theorem dL_row_9 : decode cL_row 9 = .ok (.lastore, 1) := by decide +kernel
theorem dL_row_10 : decode cL_row 10 = .ok (.goto 7, 3) := by decide +kernel
theorem dL_row_13 : decode cL_row 13 = .ok (.astore 4, 2) := by decide +kernel
theorem dL_row_15 : decode cL_row 15 = .ok (.iconst 1, 1) := by decide +kernel
theorem dL_row_16 : decode cL_row 16 = .ok (.ireturn, 1) := by decide +kernel
theorem dL_row_17 : decode cL_row 17 = .ok (.iconst 0, 1) := by decide +kernel
theorem dL_row_18 : decode cL_row 18 = .ok (.ireturn, 1) := by decide +kernel
theorem dX4_row_0 : decode cX4_row 0 = .ok (.iload_n 1, 1) := by decide +kernel
theorem dX4_row_1 : decode cX4_row 1 = .ok (.ifCond .lt 9, 3) := by decide +kernel
theorem dX4_row_4 : decode cX4_row 4 = .ok (.iload_n 1, 1) := by decide +kernel
theorem dX4_row_5 : decode cX4_row 5 = .ok (.bipush 64, 2) := by decide +kernel
theorem dX4_row_7 : decode cX4_row 7 = .ok (.if_icmp .lt 13, 3) := by decide +kernel
theorem dX4_row_10 : decode cX4_row 10 = .ok (.new 132, 3) := by decide +kernel
theorem dX4_row_13 : decode cX4_row 13 = .ok (.dup, 1) := by decide +kernel
theorem dX4_row_14 : decode cX4_row 14 = .ok (.ldc 145, 2) := by decide +kernel
theorem dX4_row_16 : decode cX4_row 16 = .ok (.invokespecial 136, 3) := by decide +kernel
theorem dX4_row_19 : decode cX4_row 19 = .ok (.athrow, 1) := by decide +kernel
theorem dX4_row_20 : decode cX4_row 20 = .ok (.iload_n 2, 1) := by decide +kernel
theorem dX4_row_21 : decode cX4_row 21 = .ok (.ifCond .lt 8, 3) := by decide +kernel
theorem dX4_row_24 : decode cX4_row 24 = .ok (.iload_n 2, 1) := by decide +kernel
theorem dX4_row_25 : decode cX4_row 25 = .ok (.iconst 1, 1) := by decide +kernel
theorem dX4_row_26 : decode cX4_row 26 = .ok (.if_icmp .le 13, 3) := by decide +kernel
theorem dX4_row_29 : decode cX4_row 29 = .ok (.new 132, 3) := by decide +kernel
theorem dX4_row_32 : decode cX4_row 32 = .ok (.dup, 1) := by decide +kernel
theorem dX4_row_33 : decode cX4_row 33 = .ok (.ldc 137, 2) := by decide +kernel
theorem dX4_row_35 : decode cX4_row 35 = .ok (.invokespecial 136, 3) := by decide +kernel
theorem dX4_row_38 : decode cX4_row 38 = .ok (.athrow, 1) := by decide +kernel
theorem dX4_row_39 : decode cX4_row 39 = .ok (.iload_n 2, 1) := by decide +kernel
theorem dX4_row_40 : decode cX4_row 40 = .ok (.ifCond .ne 15, 3) := by decide +kernel
theorem dX4_row_43 : decode cX4_row 43 = .ok (.aload_n 0, 1) := by decide +kernel
theorem dX4_row_44 : decode cX4_row 44 = .ok (.getfield 27, 3) := by decide +kernel
theorem dX4_row_47 : decode cX4_row 47 = .ok (.getfield 147, 3) := by decide +kernel
theorem dX4_row_50 : decode cX4_row 50 = .ok (.iload_n 1, 1) := by decide +kernel
theorem dX4_row_51 : decode cX4_row 51 = .ok (.iaload, 1) := by decide +kernel
theorem dX4_row_52 : decode cX4_row 52 = .ok (.goto 12, 3) := by decide +kernel
theorem dX4_row_55 : decode cX4_row 55 = .ok (.aload_n 0, 1) := by decide +kernel
theorem dX4_row_56 : decode cX4_row 56 = .ok (.getfield 27, 3) := by decide +kernel
theorem dX4_row_59 : decode cX4_row 59 = .ok (.getfield 148, 3) := by decide +kernel
theorem dX4_row_62 : decode cX4_row 62 = .ok (.iload_n 1, 1) := by decide +kernel
theorem dX4_row_63 : decode cX4_row 63 = .ok (.iaload, 1) := by decide +kernel
theorem dX4_row_64 : decode cX4_row 64 = .ok (.ireturn, 1) := by decide +kernel
theorem dL_ring_0 : decode cL_ring 0 = .ok (.aload_n 2, 1) := by decide +kernel
theorem dL_ring_1 : decode cL_ring 1 = .ok (.iconst 0, 1) := by decide +kernel
theorem dL_ring_2 : decode cL_ring 2 = .ok (.aload_n 0, 1) := by decide +kernel
theorem dL_ring_3 : decode cL_ring 3 = .ok (.iload_n 1, 1) := by decide +kernel
theorem dL_ring_4 : decode cL_ring 4 = .ok (.invokevirtual 33, 3) := by decide +kernel
theorem dL_ring_7 : decode cL_ring 7 = .ok (.i2l, 1) := by decide +kernel
theorem dL_ring_8 : decode cL_ring 8 = .ok (.lastore, 1) := by decide +kernel
theorem dL_ring_9 : decode cL_ring 9 = .ok (.goto 6, 3) := by decide +kernel
theorem dL_ring_12 : decode cL_ring 12 = .ok (.astore_n 3, 1) := by decide +kernel
theorem dL_ring_13 : decode cL_ring 13 = .ok (.iconst 1, 1) := by decide +kernel
theorem dL_ring_14 : decode cL_ring 14 = .ok (.ireturn, 1) := by decide +kernel
theorem dL_ring_15 : decode cL_ring 15 = .ok (.iconst 0, 1) := by decide +kernel
theorem dL_ring_16 : decode cL_ring 16 = .ok (.ireturn, 1) := by decide +kernel
theorem dX4_ring_0 : decode cX4_ring 0 = .ok (.iload_n 1, 1) := by decide +kernel
theorem dX4_ring_1 : decode cX4_ring 1 = .ok (.ifCond .lt 14, 3) := by decide +kernel
theorem dX4_ring_4 : decode cX4_ring 4 = .ok (.iload_n 1, 1) := by decide +kernel
theorem dX4_ring_5 : decode cX4_ring 5 = .ok (.aload_n 0, 1) := by decide +kernel
theorem dX4_ring_6 : decode cX4_ring 6 = .ok (.getfield 36, 3) := by decide +kernel
theorem dX4_ring_9 : decode cX4_ring 9 = .ok (.getfield 149, 3) := by decide +kernel
theorem dX4_ring_12 : decode cX4_ring 12 = .ok (.if_icmp .lt 13, 3) := by decide +kernel
theorem dX4_ring_15 : decode cX4_ring 15 = .ok (.new 132, 3) := by decide +kernel
theorem dX4_ring_18 : decode cX4_ring 18 = .ok (.dup, 1) := by decide +kernel
theorem dX4_ring_19 : decode cX4_ring 19 = .ok (.ldc 152, 2) := by decide +kernel
theorem dX4_ring_21 : decode cX4_ring 21 = .ok (.invokespecial 136, 3) := by decide +kernel
theorem dX4_ring_24 : decode cX4_ring 24 = .ok (.athrow, 1) := by decide +kernel
theorem dX4_ring_25 : decode cX4_ring 25 = .ok (.aload_n 0, 1) := by decide +kernel
theorem dX4_ring_26 : decode cX4_ring 26 = .ok (.getfield 36, 3) := by decide +kernel
theorem dX4_ring_29 : decode cX4_ring 29 = .ok (.iload_n 1, 1) := by decide +kernel
theorem dX4_ring_30 : decode cX4_ring 30 = .ok (.invokevirtual 154, 3) := by decide +kernel
theorem dX4_ring_33 : decode cX4_ring 33 = .ok (.ireturn, 1) := by decide +kernel
theorem dL_queued_0 : decode cL_queued 0 = .ok (.aload_n 3, 1) := by decide +kernel
theorem dL_queued_1 : decode cL_queued 1 = .ok (.iconst 0, 1) := by decide +kernel
theorem dL_queued_2 : decode cL_queued 2 = .ok (.aload_n 0, 1) := by decide +kernel
theorem dL_queued_3 : decode cL_queued 3 = .ok (.iload_n 1, 1) := by decide +kernel
theorem dL_queued_4 : decode cL_queued 4 = .ok (.iload_n 2, 1) := by decide +kernel
theorem dL_queued_5 : decode cL_queued 5 = .ok (.invokevirtual 36, 3) := by decide +kernel
theorem dL_queued_8 : decode cL_queued 8 = .ok (.i2l, 1) := by decide +kernel
theorem dL_queued_9 : decode cL_queued 9 = .ok (.lastore, 1) := by decide +kernel
theorem dL_queued_10 : decode cL_queued 10 = .ok (.goto 7, 3) := by decide +kernel
theorem dL_queued_13 : decode cL_queued 13 = .ok (.astore 4, 2) := by decide +kernel
theorem dL_queued_15 : decode cL_queued 15 = .ok (.iconst 1, 1) := by decide +kernel
theorem dL_queued_16 : decode cL_queued 16 = .ok (.ireturn, 1) := by decide +kernel
theorem dL_queued_17 : decode cL_queued 17 = .ok (.iconst 0, 1) := by decide +kernel
theorem dL_queued_18 : decode cL_queued 18 = .ok (.ireturn, 1) := by decide +kernel
theorem dX4_queued_0 : decode cX4_queued 0 = .ok (.iload_n 1, 1) := by decide +kernel
theorem dX4_queued_1 : decode cX4_queued 1 = .ok (.ifCond .lt 14, 3) := by decide +kernel
theorem dX4_queued_4 : decode cX4_queued 4 = .ok (.iload_n 1, 1) := by decide +kernel
theorem dX4_queued_5 : decode cX4_queued 5 = .ok (.aload_n 0, 1) := by decide +kernel
theorem dX4_queued_6 : decode cX4_queued 6 = .ok (.getfield 43, 3) := by decide +kernel
theorem dX4_queued_9 : decode cX4_queued 9 = .ok (.getfield 58, 3) := by decide +kernel
theorem dX4_queued_12 : decode cX4_queued 12 = .ok (.if_icmp .lt 13, 3) := by decide +kernel
theorem dX4_queued_15 : decode cX4_queued 15 = .ok (.new 132, 3) := by decide +kernel
theorem dX4_queued_18 : decode cX4_queued 18 = .ok (.dup, 1) := by decide +kernel
theorem dX4_queued_19 : decode cX4_queued 19 = .ok (.ldc 157, 2) := by decide +kernel
theorem dX4_queued_21 : decode cX4_queued 21 = .ok (.invokespecial 136, 3) := by decide +kernel
theorem dX4_queued_24 : decode cX4_queued 24 = .ok (.athrow, 1) := by decide +kernel
theorem dX4_queued_25 : decode cX4_queued 25 = .ok (.iload_n 2, 1) := by decide +kernel
theorem dX4_queued_26 : decode cX4_queued 26 = .ok (.ifCond .lt 8, 3) := by decide +kernel
theorem dX4_queued_29 : decode cX4_queued 29 = .ok (.iload_n 2, 1) := by decide +kernel
theorem dX4_queued_30 : decode cX4_queued 30 = .ok (.iconst 1, 1) := by decide +kernel
theorem dX4_queued_31 : decode cX4_queued 31 = .ok (.if_icmp .le 13, 3) := by decide +kernel
theorem dX4_queued_34 : decode cX4_queued 34 = .ok (.new 132, 3) := by decide +kernel
theorem dX4_queued_37 : decode cX4_queued 37 = .ok (.dup, 1) := by decide +kernel
theorem dX4_queued_38 : decode cX4_queued 38 = .ok (.ldc 137, 2) := by decide +kernel
theorem dX4_queued_40 : decode cX4_queued 40 = .ok (.invokespecial 136, 3) := by decide +kernel
theorem dX4_queued_43 : decode cX4_queued 43 = .ok (.athrow, 1) := by decide +kernel
theorem dX4_queued_44 : decode cX4_queued 44 = .ok (.iload_n 2, 1) := by decide +kernel
theorem dX4_queued_45 : decode cX4_queued 45 = .ok (.ifCond .ne 14, 3) := by decide +kernel
theorem dX4_queued_48 : decode cX4_queued 48 = .ok (.aload_n 0, 1) := by decide +kernel
theorem dX4_queued_49 : decode cX4_queued 49 = .ok (.getfield 43, 3) := by decide +kernel
theorem dX4_queued_52 : decode cX4_queued 52 = .ok (.iload_n 1, 1) := by decide +kernel
theorem dX4_queued_53 : decode cX4_queued 53 = .ok (.invokevirtual 89, 3) := by decide +kernel
theorem dX4_queued_56 : decode cX4_queued 56 = .ok (.goto 11, 3) := by decide +kernel
theorem dX4_queued_59 : decode cX4_queued 59 = .ok (.aload_n 0, 1) := by decide +kernel
theorem dX4_queued_60 : decode cX4_queued 60 = .ok (.getfield 43, 3) := by decide +kernel
theorem dX4_queued_63 : decode cX4_queued 63 = .ok (.iload_n 1, 1) := by decide +kernel
theorem dX4_queued_64 : decode cX4_queued 64 = .ok (.invokevirtual 95, 3) := by decide +kernel
theorem dX4_queued_67 : decode cX4_queued 67 = .ok (.ireturn, 1) := by decide +kernel
theorem dX5_init_0 : decode cX5_init 0 = .ok (.aload_n 0, 1) := by decide +kernel
theorem dX5_init_1 : decode cX5_init 1 = .ok (.invokespecial 1, 3) := by decide +kernel
theorem dX5_init_4 : decode cX5_init 4 = .ok (.aload_n 0, 1) := by decide +kernel
theorem dX5_init_5 : decode cX5_init 5 = .ok (.bipush 64, 2) := by decide +kernel
theorem dX5_init_7 : decode cX5_init 7 = .ok (.newarray .boolean, 2) := by decide +kernel
theorem dX5_init_9 : decode cX5_init 9 = .ok (.putfield 7, 3) := by decide +kernel
theorem dX5_init_12 : decode cX5_init 12 = .ok (.aload_n 0, 1) := by decide +kernel
theorem dX5_init_13 : decode cX5_init 13 = .ok (.bipush 64, 2) := by decide +kernel
theorem dX5_init_15 : decode cX5_init 15 = .ok (.newarray .int, 2) := by decide +kernel
theorem dX5_init_17 : decode cX5_init 17 = .ok (.putfield 13, 3) := by decide +kernel
theorem dX5_init_20 : decode cX5_init 20 = .ok (.aload_n 0, 1) := by decide +kernel
theorem dX5_init_21 : decode cX5_init 21 = .ok (.bipush 64, 2) := by decide +kernel
theorem dX5_init_23 : decode cX5_init 23 = .ok (.newarray .int, 2) := by decide +kernel
theorem dX5_init_25 : decode cX5_init 25 = .ok (.putfield 17, 3) := by decide +kernel
theorem dX5_init_28 : decode cX5_init 28 = .ok (.aload_n 0, 1) := by decide +kernel
theorem dX5_init_29 : decode cX5_init 29 = .ok (.bipush 64, 2) := by decide +kernel
theorem dX5_init_31 : decode cX5_init 31 = .ok (.newarray .int, 2) := by decide +kernel
theorem dX5_init_33 : decode cX5_init 33 = .ok (.putfield 20, 3) := by decide +kernel
theorem dX5_init_36 : decode cX5_init 36 = .ok (.aload_n 0, 1) := by decide +kernel
theorem dX5_init_37 : decode cX5_init 37 = .ok (.bipush 64, 2) := by decide +kernel
theorem dX5_init_39 : decode cX5_init 39 = .ok (.newarray .int, 2) := by decide +kernel
theorem dX5_init_41 : decode cX5_init 41 = .ok (.putfield 23, 3) := by decide +kernel
theorem dX5_init_44 : decode cX5_init 44 = .ok (.aload_n 0, 1) := by decide +kernel
theorem dX5_init_45 : decode cX5_init 45 = .ok (.bipush 64, 2) := by decide +kernel
theorem dX5_init_47 : decode cX5_init 47 = .ok (.newarray .int, 2) := by decide +kernel
theorem dX5_init_49 : decode cX5_init 49 = .ok (.putfield 26, 3) := by decide +kernel
theorem dX5_init_52 : decode cX5_init 52 = .ok (.aload_n 0, 1) := by decide +kernel
theorem dX5_init_53 : decode cX5_init 53 = .ok (.bipush 64, 2) := by decide +kernel
theorem dX5_init_55 : decode cX5_init 55 = .ok (.newarray .int, 2) := by decide +kernel
theorem dX5_init_57 : decode cX5_init 57 = .ok (.putfield 29, 3) := by decide +kernel
theorem dX5_init_60 : decode cX5_init 60 = .ok (.aload_n 0, 1) := by decide +kernel
theorem dX5_init_61 : decode cX5_init 61 = .ok (.bipush 17, 2) := by decide +kernel
theorem dX5_init_63 : decode cX5_init 63 = .ok (.newarray .int, 2) := by decide +kernel
theorem dX5_init_65 : decode cX5_init 65 = .ok (.putfield 32, 3) := by decide +kernel
theorem dX5_init_68 : decode cX5_init 68 = .ok (.aload_n 0, 1) := by decide +kernel
theorem dX5_init_69 : decode cX5_init 69 = .ok (.bipush 16, 2) := by decide +kernel
theorem dX5_init_71 : decode cX5_init 71 = .ok (.newarray .int, 2) := by decide +kernel
theorem dX5_init_73 : decode cX5_init 73 = .ok (.putfield 35, 3) := by decide +kernel
theorem dX5_init_76 : decode cX5_init 76 = .ok (.aload_n 0, 1) := by decide +kernel
theorem dX5_init_77 : decode cX5_init 77 = .ok (.bipush 16, 2) := by decide +kernel
theorem dX5_init_79 : decode cX5_init 79 = .ok (.newarray .int, 2) := by decide +kernel
theorem dX5_init_81 : decode cX5_init 81 = .ok (.putfield 38, 3) := by decide +kernel
theorem dX5_init_84 : decode cX5_init 84 = .ok (.aload_n 0, 1) := by decide +kernel
theorem dX5_init_85 : decode cX5_init 85 = .ok (.bipush 16, 2) := by decide +kernel
theorem dX5_init_87 : decode cX5_init 87 = .ok (.newarray .int, 2) := by decide +kernel
theorem dX5_init_89 : decode cX5_init 89 = .ok (.putfield 41, 3) := by decide +kernel
theorem dX5_init_92 : decode cX5_init 92 = .ok (.aload_n 0, 1) := by decide +kernel
theorem dX5_init_93 : decode cX5_init 93 = .ok (.sipush 272, 3) := by decide +kernel
theorem dX5_init_96 : decode cX5_init 96 = .ok (.newarray .int, 2) := by decide +kernel
theorem dX5_init_98 : decode cX5_init 98 = .ok (.putfield 44, 3) := by decide +kernel
theorem dX5_init_101 : decode cX5_init 101 = .ok (.aload_n 0, 1) := by decide +kernel
theorem dX5_init_102 : decode cX5_init 102 = .ok (.bipush 8, 2) := by decide +kernel
theorem dX5_init_104 : decode cX5_init 104 = .ok (.newarray .int, 2) := by decide +kernel
theorem dX5_init_106 : decode cX5_init 106 = .ok (.putfield 47, 3) := by decide +kernel
theorem dX5_init_109 : decode cX5_init 109 = .ok (.iload_n 1, 1) := by decide +kernel
theorem dX5_init_110 : decode cX5_init 110 = .ok (.bipush 6, 2) := by decide +kernel
theorem dX5_init_112 : decode cX5_init 112 = .ok (.invokestatic 50, 3) := by decide +kernel
theorem dX5_init_115 : decode cX5_init 115 = .ok (.istore 4, 2) := by decide +kernel
theorem dX5_init_117 : decode cX5_init 117 = .ok (.aload_n 0, 1) := by decide +kernel
theorem dX5_init_118 : decode cX5_init 118 = .ok (.iload 4, 2) := by decide +kernel
theorem dX5_init_120 : decode cX5_init 120 = .ok (.ifCond .ne 7, 3) := by decide +kernel
theorem dX5_init_123 : decode cX5_init 123 = .ok (.iconst 0, 1) := by decide +kernel
theorem dX5_init_124 : decode cX5_init 124 = .ok (.goto 9, 3) := by decide +kernel
theorem dX5_init_127 : decode cX5_init 127 = .ok (.iconst 1, 1) := by decide +kernel
theorem dX5_init_128 : decode cX5_init 128 = .ok (.iload 4, 2) := by decide +kernel
theorem dX5_init_130 : decode cX5_init 130 = .ok (.iconst 1, 1) := by decide +kernel
theorem dX5_init_131 : decode cX5_init 131 = .ok (.isub, 1) := by decide +kernel
theorem dX5_init_132 : decode cX5_init 132 = .ok (.ishl, 1) := by decide +kernel
theorem dX5_init_133 : decode cX5_init 133 = .ok (.putfield 54, 3) := by decide +kernel
theorem dX5_init_136 : decode cX5_init 136 = .ok (.aload_n 0, 1) := by decide +kernel
theorem dX5_init_137 : decode cX5_init 137 = .ok (.iload 4, 2) := by decide +kernel
theorem dX5_init_139 : decode cX5_init 139 = .ok (.ifCond .ne 7, 3) := by decide +kernel
theorem dX5_init_142 : decode cX5_init 142 = .ok (.iconst 0, 1) := by decide +kernel
theorem dX5_init_143 : decode cX5_init 143 = .ok (.goto 7, 3) := by decide +kernel
theorem dX5_init_146 : decode cX5_init 146 = .ok (.iload 4, 2) := by decide +kernel
theorem dX5_init_148 : decode cX5_init 148 = .ok (.iconst 1, 1) := by decide +kernel
theorem dX5_init_149 : decode cX5_init 149 = .ok (.isub, 1) := by decide +kernel
theorem dX5_init_150 : decode cX5_init 150 = .ok (.putfield 58, 3) := by decide +kernel
theorem dX5_init_153 : decode cX5_init 153 = .ok (.aload_n 0, 1) := by decide +kernel
theorem dX5_init_154 : decode cX5_init 154 = .ok (.iconst 1, 1) := by decide +kernel
theorem dX5_init_155 : decode cX5_init 155 = .ok (.iload_n 2, 1) := by decide +kernel
theorem dX5_init_156 : decode cX5_init 156 = .ok (.iconst 1, 1) := by decide +kernel
theorem dX5_init_157 : decode cX5_init 157 = .ok (.isub, 1) := by decide +kernel
theorem dX5_init_158 : decode cX5_init 158 = .ok (.iconst 3, 1) := by decide +kernel
theorem dX5_init_159 : decode cX5_init 159 = .ok (.iand, 1) := by decide +kernel
theorem dX5_init_160 : decode cX5_init 160 = .ok (.iadd, 1) := by decide +kernel
theorem dX5_init_161 : decode cX5_init 161 = .ok (.putfield 61, 3) := by decide +kernel
theorem dX5_init_164 : decode cX5_init 164 = .ok (.aload_n 0, 1) := by decide +kernel
theorem dX5_init_165 : decode cX5_init 165 = .ok (.iload_n 3, 1) := by decide +kernel
theorem dX5_init_166 : decode cX5_init 166 = .ok (.bipush 17, 2) := by decide +kernel
theorem dX5_init_168 : decode cX5_init 168 = .ok (.invokestatic 50, 3) := by decide +kernel
theorem dX5_init_171 : decode cX5_init 171 = .ok (.putfield 64, 3) := by decide +kernel
theorem dX5_init_174 : decode cX5_init 174 = .ok (.iconst 0, 1) := by decide +kernel
theorem dX5_init_175 : decode cX5_init 175 = .ok (.istore 5, 2) := by decide +kernel
theorem dX5_init_177 : decode cX5_init 177 = .ok (.iload 5, 2) := by decide +kernel
theorem dX5_init_179 : decode cX5_init 179 = .ok (.bipush 64, 2) := by decide +kernel
theorem dX5_init_181 : decode cX5_init 181 = .ok (.if_icmp .ge 17, 3) := by decide +kernel
theorem dX5_init_184 : decode cX5_init 184 = .ok (.aload_n 0, 1) := by decide +kernel
theorem dX5_init_185 : decode cX5_init 185 = .ok (.getfield 26, 3) := by decide +kernel
theorem dX5_init_188 : decode cX5_init 188 = .ok (.iload 5, 2) := by decide +kernel
theorem dX5_init_190 : decode cX5_init 190 = .ok (.iconst (-1), 1) := by decide +kernel
theorem dX5_init_191 : decode cX5_init 191 = .ok (.iastore, 1) := by decide +kernel
theorem dX5_init_192 : decode cX5_init 192 = .ok (.iinc 5 1, 3) := by decide +kernel
theorem dX5_init_195 : decode cX5_init 195 = .ok (.goto (-18), 3) := by decide +kernel
theorem dX5_init_198 : decode cX5_init 198 = .ok (.return_, 1) := by decide +kernel
theorem dX5_modulo_0 : decode cX5_modulo 0 = .ok (.iload_n 0, 1) := by decide +kernel
theorem dX5_modulo_1 : decode cX5_modulo 1 = .ok (.iload_n 1, 1) := by decide +kernel
theorem dX5_modulo_2 : decode cX5_modulo 2 = .ok (.irem, 1) := by decide +kernel
theorem dX5_modulo_3 : decode cX5_modulo 3 = .ok (.iload_n 1, 1) := by decide +kernel
theorem dX5_modulo_4 : decode cX5_modulo 4 = .ok (.iadd, 1) := by decide +kernel
theorem dX5_modulo_5 : decode cX5_modulo 5 = .ok (.iload_n 1, 1) := by decide +kernel
theorem dX5_modulo_6 : decode cX5_modulo 6 = .ok (.irem, 1) := by decide +kernel
theorem dX5_modulo_7 : decode cX5_modulo 7 = .ok (.ireturn, 1) := by decide +kernel
theorem dX5_thrown_0 : decode cX5_thrown 0 = .ok (.aload_n 0, 1) := by decide +kernel
theorem dX5_thrown_1 : decode cX5_thrown 1 = .ok (.getfield 67, 3) := by decide +kernel
theorem dX5_thrown_4 : decode cX5_thrown 4 = .ok (.ireturn, 1) := by decide +kernel
theorem dX5_ask_0 : decode cX5_ask 0 = .ok (.aload_n 0, 1) := by decide +kernel
theorem dX5_ask_1 : decode cX5_ask 1 = .ok (.iconst 0, 1) := by decide +kernel
theorem dX5_ask_2 : decode cX5_ask 2 = .ok (.putfield 67, 3) := by decide +kernel
theorem dX5_ask_5 : decode cX5_ask 5 = .ok (.aload_n 0, 1) := by decide +kernel
theorem dX5_ask_6 : decode cX5_ask 6 = .ok (.iload_n 1, 1) := by decide +kernel
theorem dX5_ask_7 : decode cX5_ask 7 = .ok (.invokevirtual 98, 3) := by decide +kernel
theorem dX5_ask_10 : decode cX5_ask 10 = .ok (.ireturn, 1) := by decide +kernel
theorem dX5_tell_0 : decode cX5_tell 0 = .ok (.aload_n 0, 1) := by decide +kernel
theorem dX5_tell_1 : decode cX5_tell 1 = .ok (.iload_n 1, 1) := by decide +kernel
theorem dX5_tell_2 : decode cX5_tell 2 = .ok (.invokevirtual 89, 3) := by decide +kernel
theorem dX5_tell_5 : decode cX5_tell 5 = .ok (.istore_n 2, 1) := by decide +kernel
theorem dX5_tell_6 : decode cX5_tell 6 = .ok (.iload_n 2, 1) := by decide +kernel
theorem dX5_tell_7 : decode cX5_tell 7 = .ok (.ifCond .ge 7, 3) := by decide +kernel
theorem dX5_tell_10 : decode cX5_tell 10 = .ok (.iload_n 1, 1) := by decide +kernel
theorem dX5_tell_11 : decode cX5_tell 11 = .ok (.iconst 4, 1) := by decide +kernel
theorem dX5_tell_12 : decode cX5_tell 12 = .ok (.iadd, 1) := by decide +kernel
theorem dX5_tell_13 : decode cX5_tell 13 = .ok (.ireturn, 1) := by decide +kernel
theorem dX5_tell_14 : decode cX5_tell 14 = .ok (.aload_n 0, 1) := by decide +kernel
theorem dX5_tell_15 : decode cX5_tell 15 = .ok (.iload_n 1, 1) := by decide +kernel
theorem dX5_tell_16 : decode cX5_tell 16 = .ok (.invokevirtual 92, 3) := by decide +kernel
theorem dX5_tell_19 : decode cX5_tell 19 = .ok (.istore_n 3, 1) := by decide +kernel
theorem dX5_tell_20 : decode cX5_tell 20 = .ok (.aload_n 0, 1) := by decide +kernel
theorem dX5_tell_21 : decode cX5_tell 21 = .ok (.getfield 17, 3) := by decide +kernel
theorem dX5_tell_24 : decode cX5_tell 24 = .ok (.iload_n 2, 1) := by decide +kernel
theorem dX5_tell_25 : decode cX5_tell 25 = .ok (.iaload, 1) := by decide +kernel
theorem dX5_tell_26 : decode cX5_tell 26 = .ok (.iconst 2, 1) := by decide +kernel
theorem dX5_tell_27 : decode cX5_tell 27 = .ok (.if_icmp .ne 22, 3) := by decide +kernel
theorem dX5_tell_30 : decode cX5_tell 30 = .ok (.aload_n 0, 1) := by decide +kernel
theorem dX5_tell_31 : decode cX5_tell 31 = .ok (.getfield 80, 3) := by decide +kernel
theorem dX5_tell_34 : decode cX5_tell 34 = .ok (.ifCond .le 15, 3) := by decide +kernel
theorem dX5_tell_37 : decode cX5_tell 37 = .ok (.aload_n 0, 1) := by decide +kernel
theorem dX5_tell_38 : decode cX5_tell 38 = .ok (.getfield 32, 3) := by decide +kernel
theorem dX5_tell_41 : decode cX5_tell 41 = .ok (.aload_n 0, 1) := by decide +kernel
theorem dX5_tell_42 : decode cX5_tell 42 = .ok (.getfield 80, 3) := by decide +kernel

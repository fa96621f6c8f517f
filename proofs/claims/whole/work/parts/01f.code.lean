theorem dX5_dropFirst_2 : decode cX5_dropFirst 2 = .ok (.getfield 101, 3) := by decide +kernel
theorem dX5_dropFirst_5 : decode cX5_dropFirst 5 = .ok (.iconst 1, 1) := by decide +kernel
theorem dX5_dropFirst_6 : decode cX5_dropFirst 6 = .ok (.isub, 1) := by decide +kernel
theorem dX5_dropFirst_7 : decode cX5_dropFirst 7 = .ok (.putfield 101, 3) := by decide +kernel
theorem dX5_dropFirst_10 : decode cX5_dropFirst 10 = .ok (.iconst 0, 1) := by decide +kernel
theorem dX5_dropFirst_11 : decode cX5_dropFirst 11 = .ok (.istore_n 1, 1) := by decide +kernel
theorem dX5_dropFirst_12 : decode cX5_dropFirst 12 = .ok (.iload_n 1, 1) := by decide +kernel
theorem dX5_dropFirst_13 : decode cX5_dropFirst 13 = .ok (.aload_n 0, 1) := by decide +kernel
theorem dX5_dropFirst_14 : decode cX5_dropFirst 14 = .ok (.getfield 101, 3) := by decide +kernel
theorem dX5_dropFirst_17 : decode cX5_dropFirst 17 = .ok (.if_icmp .ge 90, 3) := by decide +kernel
theorem dX5_dropFirst_20 : decode cX5_dropFirst 20 = .ok (.aload_n 0, 1) := by decide +kernel
theorem dX5_dropFirst_21 : decode cX5_dropFirst 21 = .ok (.getfield 35, 3) := by decide +kernel
theorem dX5_dropFirst_24 : decode cX5_dropFirst 24 = .ok (.iload_n 1, 1) := by decide +kernel
theorem dX5_dropFirst_25 : decode cX5_dropFirst 25 = .ok (.aload_n 0, 1) := by decide +kernel
theorem dX5_dropFirst_26 : decode cX5_dropFirst 26 = .ok (.getfield 35, 3) := by decide +kernel
theorem dX5_dropFirst_29 : decode cX5_dropFirst 29 = .ok (.iload_n 1, 1) := by decide +kernel
theorem dX5_dropFirst_30 : decode cX5_dropFirst 30 = .ok (.iconst 1, 1) := by decide +kernel
theorem dX5_dropFirst_31 : decode cX5_dropFirst 31 = .ok (.iadd, 1) := by decide +kernel
theorem dX5_dropFirst_32 : decode cX5_dropFirst 32 = .ok (.iaload, 1) := by decide +kernel
theorem dX5_dropFirst_33 : decode cX5_dropFirst 33 = .ok (.iastore, 1) := by decide +kernel
theorem dX5_dropFirst_34 : decode cX5_dropFirst 34 = .ok (.aload_n 0, 1) := by decide +kernel
theorem dX5_dropFirst_35 : decode cX5_dropFirst 35 = .ok (.getfield 38, 3) := by decide +kernel
theorem dX5_dropFirst_38 : decode cX5_dropFirst 38 = .ok (.iload_n 1, 1) := by decide +kernel
theorem dX5_dropFirst_39 : decode cX5_dropFirst 39 = .ok (.aload_n 0, 1) := by decide +kernel
theorem dX5_dropFirst_40 : decode cX5_dropFirst 40 = .ok (.getfield 38, 3) := by decide +kernel
theorem dX5_dropFirst_43 : decode cX5_dropFirst 43 = .ok (.iload_n 1, 1) := by decide +kernel
theorem dX5_dropFirst_44 : decode cX5_dropFirst 44 = .ok (.iconst 1, 1) := by decide +kernel
theorem dX5_dropFirst_45 : decode cX5_dropFirst 45 = .ok (.iadd, 1) := by decide +kernel
theorem dX5_dropFirst_46 : decode cX5_dropFirst 46 = .ok (.iaload, 1) := by decide +kernel
theorem dX5_dropFirst_47 : decode cX5_dropFirst 47 = .ok (.iastore, 1) := by decide +kernel
theorem dX5_dropFirst_48 : decode cX5_dropFirst 48 = .ok (.aload_n 0, 1) := by decide +kernel
theorem dX5_dropFirst_49 : decode cX5_dropFirst 49 = .ok (.getfield 41, 3) := by decide +kernel
theorem dX5_dropFirst_52 : decode cX5_dropFirst 52 = .ok (.iload_n 1, 1) := by decide +kernel
theorem dX5_dropFirst_53 : decode cX5_dropFirst 53 = .ok (.aload_n 0, 1) := by decide +kernel
theorem dX5_dropFirst_54 : decode cX5_dropFirst 54 = .ok (.getfield 41, 3) := by decide +kernel
theorem dX5_dropFirst_57 : decode cX5_dropFirst 57 = .ok (.iload_n 1, 1) := by decide +kernel
theorem dX5_dropFirst_58 : decode cX5_dropFirst 58 = .ok (.iconst 1, 1) := by decide +kernel
theorem dX5_dropFirst_59 : decode cX5_dropFirst 59 = .ok (.iadd, 1) := by decide +kernel
theorem dX5_dropFirst_60 : decode cX5_dropFirst 60 = .ok (.iaload, 1) := by decide +kernel
theorem dX5_dropFirst_61 : decode cX5_dropFirst 61 = .ok (.iastore, 1) := by decide +kernel
theorem dX5_dropFirst_62 : decode cX5_dropFirst 62 = .ok (.iconst 0, 1) := by decide +kernel
theorem dX5_dropFirst_63 : decode cX5_dropFirst 63 = .ok (.istore_n 2, 1) := by decide +kernel
theorem dX5_dropFirst_64 : decode cX5_dropFirst 64 = .ok (.iload_n 2, 1) := by decide +kernel
theorem dX5_dropFirst_65 : decode cX5_dropFirst 65 = .ok (.bipush 17, 2) := by decide +kernel
theorem dX5_dropFirst_67 : decode cX5_dropFirst 67 = .ok (.if_icmp .ge 34, 3) := by decide +kernel
theorem dX5_dropFirst_70 : decode cX5_dropFirst 70 = .ok (.aload_n 0, 1) := by decide +kernel
theorem dX5_dropFirst_71 : decode cX5_dropFirst 71 = .ok (.getfield 44, 3) := by decide +kernel
theorem dX5_dropFirst_74 : decode cX5_dropFirst 74 = .ok (.bipush 17, 2) := by decide +kernel
theorem dX5_dropFirst_76 : decode cX5_dropFirst 76 = .ok (.iload_n 1, 1) := by decide +kernel
theorem dX5_dropFirst_77 : decode cX5_dropFirst 77 = .ok (.imul, 1) := by decide +kernel
theorem dX5_dropFirst_78 : decode cX5_dropFirst 78 = .ok (.iload_n 2, 1) := by decide +kernel
theorem dX5_dropFirst_79 : decode cX5_dropFirst 79 = .ok (.iadd, 1) := by decide +kernel
theorem dX5_dropFirst_80 : decode cX5_dropFirst 80 = .ok (.aload_n 0, 1) := by decide +kernel
theorem dX5_dropFirst_81 : decode cX5_dropFirst 81 = .ok (.getfield 44, 3) := by decide +kernel
theorem dX5_dropFirst_84 : decode cX5_dropFirst 84 = .ok (.bipush 17, 2) := by decide +kernel
theorem dX5_dropFirst_86 : decode cX5_dropFirst 86 = .ok (.iload_n 1, 1) := by decide +kernel
theorem dX5_dropFirst_87 : decode cX5_dropFirst 87 = .ok (.imul, 1) := by decide +kernel
theorem dX5_dropFirst_88 : decode cX5_dropFirst 88 = .ok (.bipush 17, 2) := by decide +kernel
theorem dX5_dropFirst_90 : decode cX5_dropFirst 90 = .ok (.iadd, 1) := by decide +kernel
theorem dX5_dropFirst_91 : decode cX5_dropFirst 91 = .ok (.iload_n 2, 1) := by decide +kernel
theorem dX5_dropFirst_92 : decode cX5_dropFirst 92 = .ok (.iadd, 1) := by decide +kernel
theorem dX5_dropFirst_93 : decode cX5_dropFirst 93 = .ok (.iaload, 1) := by decide +kernel
theorem dX5_dropFirst_94 : decode cX5_dropFirst 94 = .ok (.iastore, 1) := by decide +kernel
theorem dX5_dropFirst_95 : decode cX5_dropFirst 95 = .ok (.iinc 2 1, 3) := by decide +kernel
theorem dX5_dropFirst_98 : decode cX5_dropFirst 98 = .ok (.goto (-34), 3) := by decide +kernel
theorem dX5_dropFirst_101 : decode cX5_dropFirst 101 = .ok (.iinc 1 1, 3) := by decide +kernel
theorem dX5_dropFirst_104 : decode cX5_dropFirst 104 = .ok (.goto (-92), 3) := by decide +kernel
theorem dX5_dropFirst_107 : decode cX5_dropFirst 107 = .ok (.return_, 1) := by decide +kernel
theorem dX5_ringAsBefore_0 : decode cX5_ringAsBefore 0 = .ok (.aload_n 0, 1) := by decide +kernel
theorem dX5_ringAsBefore_1 : decode cX5_ringAsBefore 1 = .ok (.aload_n 0, 1) := by decide +kernel
theorem dX5_ringAsBefore_2 : decode cX5_ringAsBefore 2 = .ok (.getfield 41, 3) := by decide +kernel
theorem dX5_ringAsBefore_5 : decode cX5_ringAsBefore 5 = .ok (.iload_n 1, 1) := by decide +kernel
theorem dX5_ringAsBefore_6 : decode cX5_ringAsBefore 6 = .ok (.iaload, 1) := by decide +kernel
theorem dX5_ringAsBefore_7 : decode cX5_ringAsBefore 7 = .ok (.putfield 80, 3) := by decide +kernel
theorem dX5_ringAsBefore_10 : decode cX5_ringAsBefore 10 = .ok (.iconst 0, 1) := by decide +kernel
theorem dX5_ringAsBefore_11 : decode cX5_ringAsBefore 11 = .ok (.istore_n 2, 1) := by decide +kernel
theorem dX5_ringAsBefore_12 : decode cX5_ringAsBefore 12 = .ok (.iload_n 2, 1) := by decide +kernel
theorem dX5_ringAsBefore_13 : decode cX5_ringAsBefore 13 = .ok (.bipush 17, 2) := by decide +kernel
theorem dX5_ringAsBefore_15 : decode cX5_ringAsBefore 15 = .ok (.if_icmp .ge 26, 3) := by decide +kernel
theorem dX5_ringAsBefore_18 : decode cX5_ringAsBefore 18 = .ok (.aload_n 0, 1) := by decide +kernel
theorem dX5_ringAsBefore_19 : decode cX5_ringAsBefore 19 = .ok (.getfield 32, 3) := by decide +kernel
theorem dX5_ringAsBefore_22 : decode cX5_ringAsBefore 22 = .ok (.iload_n 2, 1) := by decide +kernel
theorem dX5_ringAsBefore_23 : decode cX5_ringAsBefore 23 = .ok (.aload_n 0, 1) := by decide +kernel
theorem dX5_ringAsBefore_24 : decode cX5_ringAsBefore 24 = .ok (.getfield 44, 3) := by decide +kernel
theorem dX5_ringAsBefore_27 : decode cX5_ringAsBefore 27 = .ok (.bipush 17, 2) := by decide +kernel
theorem dX5_ringAsBefore_29 : decode cX5_ringAsBefore 29 = .ok (.iload_n 1, 1) := by decide +kernel
theorem dX5_ringAsBefore_30 : decode cX5_ringAsBefore 30 = .ok (.imul, 1) := by decide +kernel
theorem dX5_ringAsBefore_31 : decode cX5_ringAsBefore 31 = .ok (.iload_n 2, 1) := by decide +kernel
theorem dX5_ringAsBefore_32 : decode cX5_ringAsBefore 32 = .ok (.iadd, 1) := by decide +kernel
theorem dX5_ringAsBefore_33 : decode cX5_ringAsBefore 33 = .ok (.iaload, 1) := by decide +kernel
theorem dX5_ringAsBefore_34 : decode cX5_ringAsBefore 34 = .ok (.iastore, 1) := by decide +kernel
theorem dX5_ringAsBefore_35 : decode cX5_ringAsBefore 35 = .ok (.iinc 2 1, 3) := by decide +kernel
theorem dX5_ringAsBefore_38 : decode cX5_ringAsBefore 38 = .ok (.goto (-26), 3) := by decide +kernel
theorem dX5_ringAsBefore_41 : decode cX5_ringAsBefore 41 = .ok (.return_, 1) := by decide +kernel
theorem dX5_learn_0 : decode cX5_learn 0 = .ok (.aload_n 0, 1) := by decide +kernel
theorem dX5_learn_1 : decode cX5_learn 1 = .ok (.iload_n 1, 1) := by decide +kernel
theorem dX5_learn_2 : decode cX5_learn 2 = .ok (.invokevirtual 89, 3) := by decide +kernel
theorem dX5_learn_5 : decode cX5_learn 5 = .ok (.istore 4, 2) := by decide +kernel
theorem dX5_learn_7 : decode cX5_learn 7 = .ok (.iload 4, 2) := by decide +kernel
theorem dX5_learn_9 : decode cX5_learn 9 = .ok (.ifCond .ge 37, 3) := by decide +kernel
theorem dX5_learn_12 : decode cX5_learn 12 = .ok (.aload_n 0, 1) := by decide +kernel
theorem dX5_learn_13 : decode cX5_learn 13 = .ok (.getfield 54, 3) := by decide +kernel
theorem dX5_learn_16 : decode cX5_learn 16 = .ok (.ifCond .le 30, 3) := by decide +kernel
theorem dX5_learn_19 : decode cX5_learn 19 = .ok (.aload_n 0, 1) := by decide +kernel
theorem dX5_learn_20 : decode cX5_learn 20 = .ok (.iload_n 1, 1) := by decide +kernel
theorem dX5_learn_21 : decode cX5_learn 21 = .ok (.invokevirtual 114, 3) := by decide +kernel
theorem dX5_learn_24 : decode cX5_learn 24 = .ok (.istore 4, 2) := by decide +kernel
theorem dX5_learn_26 : decode cX5_learn 26 = .ok (.aload_n 0, 1) := by decide +kernel
theorem dX5_learn_27 : decode cX5_learn 27 = .ok (.getfield 7, 3) := by decide +kernel
theorem dX5_learn_30 : decode cX5_learn 30 = .ok (.iload 4, 2) := by decide +kernel
theorem dX5_learn_32 : decode cX5_learn 32 = .ok (.iconst 1, 1) := by decide +kernel
theorem dX5_learn_33 : decode cX5_learn 33 = .ok (.bastore, 1) := by decide +kernel
theorem dX5_learn_34 : decode cX5_learn 34 = .ok (.aload_n 0, 1) := by decide +kernel
theorem dX5_learn_35 : decode cX5_learn 35 = .ok (.getfield 13, 3) := by decide +kernel
theorem dX5_learn_38 : decode cX5_learn 38 = .ok (.iload 4, 2) := by decide +kernel
theorem dX5_learn_40 : decode cX5_learn 40 = .ok (.aload_n 0, 1) := by decide +kernel
theorem dX5_learn_41 : decode cX5_learn 41 = .ok (.iload_n 1, 1) := by decide +kernel
theorem dX5_learn_42 : decode cX5_learn 42 = .ok (.invokevirtual 74, 3) := by decide +kernel
theorem dX5_learn_45 : decode cX5_learn 45 = .ok (.iastore, 1) := by decide +kernel
theorem dX5_learn_46 : decode cX5_learn 46 = .ok (.iload 4, 2) := by decide +kernel
theorem dX5_learn_48 : decode cX5_learn 48 = .ok (.ifCond .lt 40, 3) := by decide +kernel
theorem dX5_learn_51 : decode cX5_learn 51 = .ok (.aload_n 0, 1) := by decide +kernel
theorem dX5_learn_52 : decode cX5_learn 52 = .ok (.getfield 17, 3) := by decide +kernel
theorem dX5_learn_55 : decode cX5_learn 55 = .ok (.iload 4, 2) := by decide +kernel
theorem dX5_learn_57 : decode cX5_learn 57 = .ok (.iload_n 2, 1) := by decide +kernel
theorem dX5_learn_58 : decode cX5_learn 58 = .ok (.iastore, 1) := by decide +kernel
theorem dX5_learn_59 : decode cX5_learn 59 = .ok (.aload_n 0, 1) := by decide +kernel
theorem dX5_learn_60 : decode cX5_learn 60 = .ok (.getfield 20, 3) := by decide +kernel
theorem dX5_learn_63 : decode cX5_learn 63 = .ok (.iload 4, 2) := by decide +kernel
theorem dX5_learn_65 : decode cX5_learn 65 = .ok (.iload_n 3, 1) := by decide +kernel
theorem dX5_learn_66 : decode cX5_learn 66 = .ok (.iastore, 1) := by decide +kernel
theorem dX5_learn_67 : decode cX5_learn 67 = .ok (.aload_n 0, 1) := by decide +kernel
theorem dX5_learn_68 : decode cX5_learn 68 = .ok (.dup, 1) := by decide +kernel
theorem dX5_learn_69 : decode cX5_learn 69 = .ok (.getfield 117, 3) := by decide +kernel
theorem dX5_learn_72 : decode cX5_learn 72 = .ok (.iconst 1, 1) := by decide +kernel
theorem dX5_learn_73 : decode cX5_learn 73 = .ok (.iadd, 1) := by decide +kernel
theorem dX5_learn_74 : decode cX5_learn 74 = .ok (.putfield 117, 3) := by decide +kernel
theorem dX5_learn_77 : decode cX5_learn 77 = .ok (.aload_n 0, 1) := by decide +kernel
theorem dX5_learn_78 : decode cX5_learn 78 = .ok (.getfield 23, 3) := by decide +kernel
theorem dX5_learn_81 : decode cX5_learn 81 = .ok (.iload 4, 2) := by decide +kernel
theorem dX5_learn_83 : decode cX5_learn 83 = .ok (.aload_n 0, 1) := by decide +kernel
theorem dX5_learn_84 : decode cX5_learn 84 = .ok (.getfield 117, 3) := by decide +kernel
theorem dX5_learn_87 : decode cX5_learn 87 = .ok (.iastore, 1) := by decide +kernel
theorem dX5_learn_88 : decode cX5_learn 88 = .ok (.iload_n 2, 1) := by decide +kernel
theorem dX5_learn_89 : decode cX5_learn 89 = .ok (.iconst 3, 1) := by decide +kernel
theorem dX5_learn_90 : decode cX5_learn 90 = .ok (.if_icmp .ne 28, 3) := by decide +kernel
theorem dX5_learn_93 : decode cX5_learn 93 = .ok (.aload_n 0, 1) := by decide +kernel
theorem dX5_learn_94 : decode cX5_learn 94 = .ok (.getfield 26, 3) := by decide +kernel
theorem dX5_learn_97 : decode cX5_learn 97 = .ok (.aload_n 0, 1) := by decide +kernel
theorem dX5_learn_98 : decode cX5_learn 98 = .ok (.iload_n 1, 1) := by decide +kernel
theorem dX5_learn_99 : decode cX5_learn 99 = .ok (.invokevirtual 92, 3) := by decide +kernel
theorem dX5_learn_102 : decode cX5_learn 102 = .ok (.iload_n 1, 1) := by decide +kernel
theorem dX5_learn_103 : decode cX5_learn 103 = .ok (.invokestatic 95, 3) := by decide +kernel
theorem dX5_learn_106 : decode cX5_learn 106 = .ok (.iastore, 1) := by decide +kernel
theorem dX5_learn_107 : decode cX5_learn 107 = .ok (.aload_n 0, 1) := by decide +kernel
theorem dX5_learn_108 : decode cX5_learn 108 = .ok (.getfield 29, 3) := by decide +kernel
theorem dX5_learn_111 : decode cX5_learn 111 = .ok (.aload_n 0, 1) := by decide +kernel
theorem dX5_learn_112 : decode cX5_learn 112 = .ok (.iload_n 1, 1) := by decide +kernel
theorem dX5_learn_113 : decode cX5_learn 113 = .ok (.invokevirtual 92, 3) := by decide +kernel
theorem dX5_learn_116 : decode cX5_learn 116 = .ok (.iload_n 3, 1) := by decide +kernel
theorem dX5_learn_117 : decode cX5_learn 117 = .ok (.iastore, 1) := by decide +kernel
theorem dX5_learn_118 : decode cX5_learn 118 = .ok (.aload_n 0, 1) := by decide +kernel
theorem dX5_learn_119 : decode cX5_learn 119 = .ok (.aload_n 0, 1) := by decide +kernel
theorem dX5_learn_120 : decode cX5_learn 120 = .ok (.getfield 77, 3) := by decide +kernel
theorem dX5_learn_123 : decode cX5_learn 123 = .ok (.iconst 3, 1) := by decide +kernel
theorem dX5_learn_124 : decode cX5_learn 124 = .ok (.ishl, 1) := by decide +kernel
theorem dX5_learn_125 : decode cX5_learn 125 = .ok (.iload_n 3, 1) := by decide +kernel
theorem dX5_learn_126 : decode cX5_learn 126 = .ok (.iconst 2, 1) := by decide +kernel
theorem dX5_learn_127 : decode cX5_learn 127 = .ok (.iushr, 1) := by decide +kernel
theorem dX5_learn_128 : decode cX5_learn 128 = .ok (.ixor, 1) := by decide +kernel
theorem dX5_learn_129 : decode cX5_learn 129 = .ok (.ldc 120, 2) := by decide +kernel
theorem dX5_learn_131 : decode cX5_learn 131 = .ok (.iand, 1) := by decide +kernel
theorem dX5_learn_132 : decode cX5_learn 132 = .ok (.putfield 77, 3) := by decide +kernel
theorem dX5_learn_135 : decode cX5_learn 135 = .ok (.return_, 1) := by decide +kernel
theorem dX5_wayFor_0 : decode cX5_wayFor 0 = .ok (.aload_n 0, 1) := by decide +kernel
theorem dX5_wayFor_1 : decode cX5_wayFor 1 = .ok (.iload_n 1, 1) := by decide +kernel
theorem dX5_wayFor_2 : decode cX5_wayFor 2 = .ok (.invokevirtual 70, 3) := by decide +kernel
theorem dX5_wayFor_5 : decode cX5_wayFor 5 = .ok (.istore_n 2, 1) := by decide +kernel
theorem dX5_wayFor_6 : decode cX5_wayFor 6 = .ok (.iload_n 2, 1) := by decide +kernel
theorem dX5_wayFor_7 : decode cX5_wayFor 7 = .ok (.istore_n 3, 1) := by decide +kernel
theorem dX5_wayFor_8 : decode cX5_wayFor 8 = .ok (.iload_n 2, 1) := by decide +kernel
theorem dX5_wayFor_9 : decode cX5_wayFor 9 = .ok (.istore 4, 2) := by decide +kernel
theorem dX5_wayFor_11 : decode cX5_wayFor 11 = .ok (.iload 4, 2) := by decide +kernel
theorem dX5_wayFor_13 : decode cX5_wayFor 13 = .ok (.iload_n 2, 1) := by decide +kernel
theorem dX5_wayFor_14 : decode cX5_wayFor 14 = .ok (.aload_n 0, 1) := by decide +kernel
theorem dX5_wayFor_15 : decode cX5_wayFor 15 = .ok (.getfield 61, 3) := by decide +kernel
theorem dX5_wayFor_18 : decode cX5_wayFor 18 = .ok (.iadd, 1) := by decide +kernel
theorem dX5_wayFor_19 : decode cX5_wayFor 19 = .ok (.if_icmp .ge 45, 3) := by decide +kernel
theorem dX5_wayFor_22 : decode cX5_wayFor 22 = .ok (.aload_n 0, 1) := by decide +kernel
theorem dX5_wayFor_23 : decode cX5_wayFor 23 = .ok (.getfield 7, 3) := by decide +kernel
theorem dX5_wayFor_26 : decode cX5_wayFor 26 = .ok (.iload 4, 2) := by decide +kernel
theorem dX5_wayFor_28 : decode cX5_wayFor 28 = .ok (.baload, 1) := by decide +kernel
theorem dX5_wayFor_29 : decode cX5_wayFor 29 = .ok (.ifCond .ne 6, 3) := by decide +kernel
theorem dX5_wayFor_32 : decode cX5_wayFor 32 = .ok (.iload 4, 2) := by decide +kernel
theorem dX5_wayFor_34 : decode cX5_wayFor 34 = .ok (.ireturn, 1) := by decide +kernel
theorem dX5_wayFor_35 : decode cX5_wayFor 35 = .ok (.aload_n 0, 1) := by decide +kernel
theorem dX5_wayFor_36 : decode cX5_wayFor 36 = .ok (.getfield 23, 3) := by decide +kernel
theorem dX5_wayFor_39 : decode cX5_wayFor 39 = .ok (.iload 4, 2) := by decide +kernel
theorem dX5_wayFor_41 : decode cX5_wayFor 41 = .ok (.iaload, 1) := by decide +kernel
theorem dX5_wayFor_42 : decode cX5_wayFor 42 = .ok (.aload_n 0, 1) := by decide +kernel
theorem dX5_wayFor_43 : decode cX5_wayFor 43 = .ok (.getfield 23, 3) := by decide +kernel
theorem dX5_wayFor_46 : decode cX5_wayFor 46 = .ok (.iload_n 3, 1) := by decide +kernel
theorem dX5_wayFor_47 : decode cX5_wayFor 47 = .ok (.iaload, 1) := by decide +kernel
theorem dX5_wayFor_48 : decode cX5_wayFor 48 = .ok (.if_icmp .ge 8, 3) := by decide +kernel
theorem dX5_wayFor_51 : decode cX5_wayFor 51 = .ok (.iload 4, 2) := by decide +kernel
theorem dX5_wayFor_53 : decode cX5_wayFor 53 = .ok (.goto 4, 3) := by decide +kernel
theorem dX5_wayFor_56 : decode cX5_wayFor 56 = .ok (.iload_n 3, 1) := by decide +kernel
theorem dX5_wayFor_57 : decode cX5_wayFor 57 = .ok (.istore_n 3, 1) := by decide +kernel
theorem dX5_wayFor_58 : decode cX5_wayFor 58 = .ok (.iinc 4 1, 3) := by decide +kernel
theorem dX5_wayFor_61 : decode cX5_wayFor 61 = .ok (.goto (-50), 3) := by decide +kernel
theorem dX5_wayFor_64 : decode cX5_wayFor 64 = .ok (.iload_n 3, 1) := by decide +kernel
theorem dX5_wayFor_65 : decode cX5_wayFor 65 = .ok (.ireturn, 1) := by decide +kernel
theorem dX5_flush_0 : decode cX5_flush 0 = .ok (.aload_n 0, 1) := by decide +kernel
theorem dX5_flush_1 : decode cX5_flush 1 = .ok (.iconst 0, 1) := by decide +kernel
theorem dX5_flush_2 : decode cX5_flush 2 = .ok (.putfield 67, 3) := by decide +kernel
theorem dX5_flush_5 : decode cX5_flush 5 = .ok (.aload_n 0, 1) := by decide +kernel
theorem dX5_flush_6 : decode cX5_flush 6 = .ok (.getfield 101, 3) := by decide +kernel
theorem dX5_flush_9 : decode cX5_flush 9 = .ok (.istore_n 1, 1) := by decide +kernel
theorem dX5_flush_10 : decode cX5_flush 10 = .ok (.iload_n 1, 1) := by decide +kernel
theorem dX5_flush_11 : decode cX5_flush 11 = .ok (.ifCond .le 8, 3) := by decide +kernel
theorem dX5_flush_14 : decode cX5_flush 14 = .ok (.aload_n 0, 1) := by decide +kernel
theorem dX5_flush_15 : decode cX5_flush 15 = .ok (.iconst 0, 1) := by decide +kernel
theorem dX5_flush_16 : decode cX5_flush 16 = .ok (.invokevirtual 135, 3) := by decide +kernel
theorem dX5_flush_19 : decode cX5_flush 19 = .ok (.aload_n 0, 1) := by decide +kernel
theorem dX5_flush_20 : decode cX5_flush 20 = .ok (.iconst 0, 1) := by decide +kernel
theorem dX5_flush_21 : decode cX5_flush 21 = .ok (.putfield 101, 3) := by decide +kernel
theorem dX5_flush_24 : decode cX5_flush 24 = .ok (.aload_n 0, 1) := by decide +kernel
theorem dX5_flush_25 : decode cX5_flush 25 = .ok (.dup, 1) := by decide +kernel
theorem dX5_flush_26 : decode cX5_flush 26 = .ok (.getfield 132, 3) := by decide +kernel
theorem dX5_flush_29 : decode cX5_flush 29 = .ok (.iload_n 1, 1) := by decide +kernel
theorem dX5_flush_30 : decode cX5_flush 30 = .ok (.iadd, 1) := by decide +kernel
theorem dX5_flush_31 : decode cX5_flush 31 = .ok (.putfield 132, 3) := by decide +kernel
theorem dX5_flush_34 : decode cX5_flush 34 = .ok (.iload_n 1, 1) := by decide +kernel
theorem dX5_flush_35 : decode cX5_flush 35 = .ok (.ireturn, 1) := by decide +kernel
theorem dX5_entry_0 : decode cX5_entry 0 = .ok (.aload_n 0, 1) := by decide +kernel
theorem dX5_entry_1 : decode cX5_entry 1 = .ok (.iconst 0, 1) := by decide +kernel
theorem dX5_entry_2 : decode cX5_entry 2 = .ok (.putfield 67, 3) := by decide +kernel
theorem dX5_entry_5 : decode cX5_entry 5 = .ok (.iload_n 1, 1) := by decide +kernel
theorem dX5_entry_6 : decode cX5_entry 6 = .ok (.iconst 0, 1) := by decide +kernel
theorem dX5_entry_7 : decode cX5_entry 7 = .ok (.aload_n 0, 1) := by decide +kernel
theorem dX5_entry_8 : decode cX5_entry 8 = .ok (.getfield 54, 3) := by decide +kernel
theorem dX5_entry_11 : decode cX5_entry 11 = .ok (.iconst 1, 1) := by decide +kernel
theorem dX5_entry_12 : decode cX5_entry 12 = .ok (.isub, 1) := by decide +kernel
theorem dX5_entry_13 : decode cX5_entry 13 = .ok (.invokestatic 121, 3) := by decide +kernel
theorem dX5_entry_16 : decode cX5_entry 16 = .ok (.ifCond .eq 26, 3) := by decide +kernel
theorem dX5_entry_19 : decode cX5_entry 19 = .ok (.iload_n 2, 1) := by decide +kernel
theorem dX5_entry_20 : decode cX5_entry 20 = .ok (.iconst 0, 1) := by decide +kernel
theorem dX5_entry_21 : decode cX5_entry 21 = .ok (.aload_n 0, 1) := by decide +kernel
theorem dX5_entry_22 : decode cX5_entry 22 = .ok (.getfield 61, 3) := by decide +kernel
theorem dX5_entry_25 : decode cX5_entry 25 = .ok (.iconst 1, 1) := by decide +kernel
theorem dX5_entry_26 : decode cX5_entry 26 = .ok (.isub, 1) := by decide +kernel
theorem dX5_entry_27 : decode cX5_entry 27 = .ok (.invokestatic 121, 3) := by decide +kernel
theorem dX5_entry_30 : decode cX5_entry 30 = .ok (.ifCond .eq 12, 3) := by decide +kernel
theorem dX5_entry_33 : decode cX5_entry 33 = .ok (.iload_n 3, 1) := by decide +kernel
theorem dX5_entry_34 : decode cX5_entry 34 = .ok (.iconst 0, 1) := by decide +kernel
theorem dX5_entry_35 : decode cX5_entry 35 = .ok (.iconst 2, 1) := by decide +kernel
theorem dX5_entry_36 : decode cX5_entry 36 = .ok (.invokestatic 121, 3) := by decide +kernel
theorem dX5_entry_39 : decode cX5_entry 39 = .ok (.ifCond .ne 9, 3) := by decide +kernel
theorem dX5_entry_42 : decode cX5_entry 42 = .ok (.aload_n 0, 1) := by decide +kernel
theorem dX5_entry_43 : decode cX5_entry 43 = .ok (.iconst 1, 1) := by decide +kernel
theorem dX5_entry_44 : decode cX5_entry 44 = .ok (.invokevirtual 104, 3) := by decide +kernel
theorem dX5_entry_47 : decode cX5_entry 47 = .ok (.ireturn, 1) := by decide +kernel
theorem dX5_entry_48 : decode cX5_entry 48 = .ok (.iconst 4, 1) := by decide +kernel
theorem dX5_entry_49 : decode cX5_entry 49 = .ok (.iload_n 1, 1) := by decide +kernel
theorem dX5_entry_50 : decode cX5_entry 50 = .ok (.imul, 1) := by decide +kernel
theorem dX5_entry_51 : decode cX5_entry 51 = .ok (.iload_n 2, 1) := by decide +kernel
theorem dX5_entry_52 : decode cX5_entry 52 = .ok (.iadd, 1) := by decide +kernel
theorem dX5_entry_53 : decode cX5_entry 53 = .ok (.istore 4, 2) := by decide +kernel
theorem dX5_entry_55 : decode cX5_entry 55 = .ok (.aload_n 0, 1) := by decide +kernel
theorem dX5_entry_56 : decode cX5_entry 56 = .ok (.getfield 7, 3) := by decide +kernel
theorem dX5_entry_59 : decode cX5_entry 59 = .ok (.iload 4, 2) := by decide +kernel
theorem dX5_entry_61 : decode cX5_entry 61 = .ok (.baload, 1) := by decide +kernel
theorem dX5_entry_62 : decode cX5_entry 62 = .ok (.ifCond .ne 13, 3) := by decide +kernel
theorem dX5_entry_65 : decode cX5_entry 65 = .ok (.iload_n 3, 1) := by decide +kernel
theorem dX5_entry_66 : decode cX5_entry 66 = .ok (.ifCond .ne 7, 3) := by decide +kernel
theorem dX5_entry_69 : decode cX5_entry 69 = .ok (.iconst (-1), 1) := by decide +kernel
theorem dX5_entry_70 : decode cX5_entry 70 = .ok (.goto 4, 3) := by decide +kernel
theorem dX5_entry_73 : decode cX5_entry 73 = .ok (.iconst 0, 1) := by decide +kernel
theorem dX5_entry_74 : decode cX5_entry 74 = .ok (.ireturn, 1) := by decide +kernel
theorem dX5_entry_75 : decode cX5_entry 75 = .ok (.iload_n 3, 1) := by decide +kernel
theorem dX5_entry_76 : decode cX5_entry 76 = .ok (.ifCond .ne 13, 3) := by decide +kernel
theorem dX5_entry_79 : decode cX5_entry 79 = .ok (.aload_n 0, 1) := by decide +kernel
theorem dX5_entry_80 : decode cX5_entry 80 = .ok (.getfield 13, 3) := by decide +kernel
theorem dX5_entry_83 : decode cX5_entry 83 = .ok (.iload 4, 2) := by decide +kernel
theorem dX5_entry_85 : decode cX5_entry 85 = .ok (.iaload, 1) := by decide +kernel
theorem dX5_entry_86 : decode cX5_entry 86 = .ok (.goto 25, 3) := by decide +kernel
theorem dX5_entry_89 : decode cX5_entry 89 = .ok (.iload_n 3, 1) := by decide +kernel
theorem dX5_entry_90 : decode cX5_entry 90 = .ok (.iconst 1, 1) := by decide +kernel
theorem dX5_entry_91 : decode cX5_entry 91 = .ok (.if_icmp .ne 13, 3) := by decide +kernel
theorem dX5_entry_94 : decode cX5_entry 94 = .ok (.aload_n 0, 1) := by decide +kernel
theorem dX5_entry_95 : decode cX5_entry 95 = .ok (.getfield 17, 3) := by decide +kernel
theorem dX5_entry_98 : decode cX5_entry 98 = .ok (.iload 4, 2) := by decide +kernel
theorem dX5_entry_100 : decode cX5_entry 100 = .ok (.iaload, 1) := by decide +kernel
theorem dX5_entry_101 : decode cX5_entry 101 = .ok (.goto 10, 3) := by decide +kernel
theorem dX5_entry_104 : decode cX5_entry 104 = .ok (.aload_n 0, 1) := by decide +kernel
theorem dX5_entry_105 : decode cX5_entry 105 = .ok (.getfield 20, 3) := by decide +kernel
theorem dX5_entry_108 : decode cX5_entry 108 = .ok (.iload 4, 2) := by decide +kernel
theorem dX5_entry_110 : decode cX5_entry 110 = .ok (.iaload, 1) := by decide +kernel
theorem dX5_entry_111 : decode cX5_entry 111 = .ok (.ireturn, 1) := by decide +kernel
theorem dX5_row_0 : decode cX5_row 0 = .ok (.aload_n 0, 1) := by decide +kernel
theorem dX5_row_1 : decode cX5_row 1 = .ok (.iconst 0, 1) := by decide +kernel
theorem dX5_row_2 : decode cX5_row 2 = .ok (.putfield 67, 3) := by decide +kernel
theorem dX5_row_5 : decode cX5_row 5 = .ok (.iload_n 1, 1) := by decide +kernel
theorem dX5_row_6 : decode cX5_row 6 = .ok (.iconst 0, 1) := by decide +kernel
theorem dX5_row_7 : decode cX5_row 7 = .ok (.bipush 63, 2) := by decide +kernel
theorem dX5_row_9 : decode cX5_row 9 = .ok (.invokestatic 121, 3) := by decide +kernel
theorem dX5_row_12 : decode cX5_row 12 = .ok (.ifCond .eq 12, 3) := by decide +kernel
theorem dX5_row_15 : decode cX5_row 15 = .ok (.iload_n 2, 1) := by decide +kernel
theorem dX5_row_16 : decode cX5_row 16 = .ok (.iconst 0, 1) := by decide +kernel
theorem dX5_row_17 : decode cX5_row 17 = .ok (.iconst 1, 1) := by decide +kernel
theorem dX5_row_18 : decode cX5_row 18 = .ok (.invokestatic 121, 3) := by decide +kernel
theorem dX5_row_21 : decode cX5_row 21 = .ok (.ifCond .ne 9, 3) := by decide +kernel
theorem dX5_row_24 : decode cX5_row 24 = .ok (.aload_n 0, 1) := by decide +kernel
theorem dX5_row_25 : decode cX5_row 25 = .ok (.iconst 1, 1) := by decide +kernel
theorem dX5_row_26 : decode cX5_row 26 = .ok (.invokevirtual 104, 3) := by decide +kernel
theorem dX5_row_29 : decode cX5_row 29 = .ok (.ireturn, 1) := by decide +kernel
theorem dX5_row_30 : decode cX5_row 30 = .ok (.iload_n 2, 1) := by decide +kernel
theorem dX5_row_31 : decode cX5_row 31 = .ok (.ifCond .ne 12, 3) := by decide +kernel
theorem dX5_row_34 : decode cX5_row 34 = .ok (.aload_n 0, 1) := by decide +kernel
theorem dX5_row_35 : decode cX5_row 35 = .ok (.getfield 26, 3) := by decide +kernel
theorem dX5_row_38 : decode cX5_row 38 = .ok (.iload_n 1, 1) := by decide +kernel
theorem dX5_row_39 : decode cX5_row 39 = .ok (.iaload, 1) := by decide +kernel
theorem dX5_row_40 : decode cX5_row 40 = .ok (.goto 9, 3) := by decide +kernel
theorem dX5_row_43 : decode cX5_row 43 = .ok (.aload_n 0, 1) := by decide +kernel
theorem dX5_row_44 : decode cX5_row 44 = .ok (.getfield 29, 3) := by decide +kernel
theorem dX5_row_47 : decode cX5_row 47 = .ok (.iload_n 1, 1) := by decide +kernel
theorem dX5_row_48 : decode cX5_row 48 = .ok (.iaload, 1) := by decide +kernel
theorem dX5_row_49 : decode cX5_row 49 = .ok (.ireturn, 1) := by decide +kernel
theorem dX5_ring_0 : decode cX5_ring 0 = .ok (.aload_n 0, 1) := by decide +kernel
theorem dX5_ring_1 : decode cX5_ring 1 = .ok (.iconst 0, 1) := by decide +kernel
theorem dX5_ring_2 : decode cX5_ring 2 = .ok (.putfield 67, 3) := by decide +kernel
theorem dX5_ring_5 : decode cX5_ring 5 = .ok (.iload_n 1, 1) := by decide +kernel
theorem dX5_ring_6 : decode cX5_ring 6 = .ok (.iconst 0, 1) := by decide +kernel
theorem dX5_ring_7 : decode cX5_ring 7 = .ok (.aload_n 0, 1) := by decide +kernel
theorem dX5_ring_8 : decode cX5_ring 8 = .ok (.getfield 80, 3) := by decide +kernel
theorem dX5_ring_11 : decode cX5_ring 11 = .ok (.iconst 1, 1) := by decide +kernel
theorem dX5_ring_12 : decode cX5_ring 12 = .ok (.isub, 1) := by decide +kernel
theorem dX5_ring_13 : decode cX5_ring 13 = .ok (.invokestatic 121, 3) := by decide +kernel
theorem dX5_ring_16 : decode cX5_ring 16 = .ok (.ifCond .eq 19, 3) := by decide +kernel
theorem dX5_ring_19 : decode cX5_ring 19 = .ok (.aload_n 0, 1) := by decide +kernel
theorem dX5_ring_20 : decode cX5_ring 20 = .ok (.getfield 32, 3) := by decide +kernel
theorem dX5_ring_23 : decode cX5_ring 23 = .ok (.aload_n 0, 1) := by decide +kernel
theorem dX5_ring_24 : decode cX5_ring 24 = .ok (.getfield 80, 3) := by decide +kernel
theorem dX5_ring_27 : decode cX5_ring 27 = .ok (.iconst 1, 1) := by decide +kernel
theorem dX5_ring_28 : decode cX5_ring 28 = .ok (.isub, 1) := by decide +kernel
theorem dX5_ring_29 : decode cX5_ring 29 = .ok (.iload_n 1, 1) := by decide +kernel
theorem dX5_ring_30 : decode cX5_ring 30 = .ok (.isub, 1) := by decide +kernel
theorem dX5_ring_31 : decode cX5_ring 31 = .ok (.iaload, 1) := by decide +kernel
theorem dX5_ring_32 : decode cX5_ring 32 = .ok (.goto 8, 3) := by decide +kernel
theorem dX5_ring_35 : decode cX5_ring 35 = .ok (.aload_n 0, 1) := by decide +kernel
theorem dX5_ring_36 : decode cX5_ring 36 = .ok (.iconst 1, 1) := by decide +kernel
theorem dX5_ring_37 : decode cX5_ring 37 = .ok (.invokevirtual 104, 3) := by decide +kernel
theorem dX5_ring_40 : decode cX5_ring 40 = .ok (.ireturn, 1) := by decide +kernel
theorem dX5_queued_0 : decode cX5_queued 0 = .ok (.aload_n 0, 1) := by decide +kernel
theorem dX5_queued_1 : decode cX5_queued 1 = .ok (.iconst 0, 1) := by decide +kernel
theorem dX5_queued_2 : decode cX5_queued 2 = .ok (.putfield 67, 3) := by decide +kernel
theorem dX5_queued_5 : decode cX5_queued 5 = .ok (.iload_n 1, 1) := by decide +kernel
theorem dX5_queued_6 : decode cX5_queued 6 = .ok (.iconst 0, 1) := by decide +kernel
theorem dX5_queued_7 : decode cX5_queued 7 = .ok (.aload_n 0, 1) := by decide +kernel
theorem dX5_queued_8 : decode cX5_queued 8 = .ok (.getfield 101, 3) := by decide +kernel
theorem dX5_queued_11 : decode cX5_queued 11 = .ok (.iconst 1, 1) := by decide +kernel
theorem dX5_queued_12 : decode cX5_queued 12 = .ok (.isub, 1) := by decide +kernel
theorem dX5_queued_13 : decode cX5_queued 13 = .ok (.invokestatic 121, 3) := by decide +kernel
theorem dX5_queued_16 : decode cX5_queued 16 = .ok (.ifCond .eq 12, 3) := by decide +kernel
theorem dX5_queued_19 : decode cX5_queued 19 = .ok (.iload_n 2, 1) := by decide +kernel
theorem dX5_queued_20 : decode cX5_queued 20 = .ok (.iconst 0, 1) := by decide +kernel
theorem dX5_queued_21 : decode cX5_queued 21 = .ok (.iconst 1, 1) := by decide +kernel
theorem dX5_queued_22 : decode cX5_queued 22 = .ok (.invokestatic 121, 3) := by decide +kernel
theorem dX5_queued_25 : decode cX5_queued 25 = .ok (.ifCond .ne 9, 3) := by decide +kernel
theorem dX5_queued_28 : decode cX5_queued 28 = .ok (.aload_n 0, 1) := by decide +kernel
theorem dX5_queued_29 : decode cX5_queued 29 = .ok (.iconst 1, 1) := by decide +kernel
theorem dX5_queued_30 : decode cX5_queued 30 = .ok (.invokevirtual 104, 3) := by decide +kernel
theorem dX5_queued_33 : decode cX5_queued 33 = .ok (.ireturn, 1) := by decide +kernel
theorem dX5_queued_34 : decode cX5_queued 34 = .ok (.iload_n 2, 1) := by decide +kernel
theorem dX5_queued_35 : decode cX5_queued 35 = .ok (.ifCond .ne 12, 3) := by decide +kernel
theorem dX5_queued_38 : decode cX5_queued 38 = .ok (.aload_n 0, 1) := by decide +kernel
theorem dX5_queued_39 : decode cX5_queued 39 = .ok (.getfield 35, 3) := by decide +kernel
theorem dX5_queued_42 : decode cX5_queued 42 = .ok (.iload_n 1, 1) := by decide +kernel
theorem dX5_queued_43 : decode cX5_queued 43 = .ok (.iaload, 1) := by decide +kernel
theorem dX5_queued_44 : decode cX5_queued 44 = .ok (.goto 9, 3) := by decide +kernel
theorem dX5_queued_47 : decode cX5_queued 47 = .ok (.aload_n 0, 1) := by decide +kernel
theorem dX5_queued_48 : decode cX5_queued 48 = .ok (.getfield 38, 3) := by decide +kernel
theorem dX5_queued_51 : decode cX5_queued 51 = .ok (.iload_n 1, 1) := by decide +kernel
theorem dX5_queued_52 : decode cX5_queued 52 = .ok (.iaload, 1) := by decide +kernel
theorem dX5_queued_53 : decode cX5_queued 53 = .ok (.ireturn, 1) := by decide +kernel
theorem dX5_storage_0 : decode cX5_storage 0 = .ok (.aload_n 0, 1) := by decide +kernel
theorem dX5_storage_1 : decode cX5_storage 1 = .ok (.iconst 0, 1) := by decide +kernel
theorem dX5_storage_2 : decode cX5_storage 2 = .ok (.putfield 67, 3) := by decide +kernel
theorem dX5_storage_5 : decode cX5_storage 5 = .ok (.bipush 42, 2) := by decide +kernel
theorem dX5_storage_7 : decode cX5_storage 7 = .ok (.aload_n 0, 1) := by decide +kernel
theorem dX5_storage_8 : decode cX5_storage 8 = .ok (.getfield 54, 3) := by decide +kernel
theorem dX5_storage_11 : decode cX5_storage 11 = .ok (.imul, 1) := by decide +kernel
theorem dX5_storage_12 : decode cX5_storage 12 = .ok (.aload_n 0, 1) := by decide +kernel
theorem dX5_storage_13 : decode cX5_storage 13 = .ok (.getfield 61, 3) := by decide +kernel
theorem dX5_storage_16 : decode cX5_storage 16 = .ok (.imul, 1) := by decide +kernel
theorem dX5_storage_17 : decode cX5_storage 17 = .ok (.sipush 2560, 3) := by decide +kernel
theorem dX5_storage_20 : decode cX5_storage 20 = .ok (.iadd, 1) := by decide +kernel
theorem dX5_storage_21 : decode cX5_storage 21 = .ok (.bipush 32, 2) := by decide +kernel
theorem dX5_storage_23 : decode cX5_storage 23 = .ok (.aload_n 0, 1) := by decide +kernel
theorem dX5_storage_24 : decode cX5_storage 24 = .ok (.getfield 64, 3) := by decide +kernel
theorem dX5_storage_27 : decode cX5_storage 27 = .ok (.imul, 1) := by decide +kernel
theorem dX5_storage_28 : decode cX5_storage 28 = .ok (.iadd, 1) := by decide +kernel
theorem dX5_storage_29 : decode cX5_storage 29 = .ok (.bipush 24, 2) := by decide +kernel
theorem dX5_storage_31 : decode cX5_storage 31 = .ok (.iadd, 1) := by decide +kernel
theorem dX5_storage_32 : decode cX5_storage 32 = .ok (.ireturn, 1) := by decide +kernel
theorem dX5_count_0 : decode cX5_count 0 = .ok (.aload_n 0, 1) := by decide +kernel
theorem dX5_count_1 : decode cX5_count 1 = .ok (.iconst 0, 1) := by decide +kernel
theorem dX5_count_2 : decode cX5_count 2 = .ok (.putfield 67, 3) := by decide +kernel
theorem dX5_count_5 : decode cX5_count 5 = .ok (.iload_n 1, 1) := by decide +kernel
theorem dX5_count_6 : decode cX5_count 6 = .ok (.iconst 0, 1) := by decide +kernel
theorem dX5_count_7 : decode cX5_count 7 = .ok (.bipush 17, 2) := by decide +kernel
theorem dX5_count_9 : decode cX5_count 9 = .ok (.invokestatic 121, 3) := by decide +kernel
theorem dX5_count_12 : decode cX5_count 12 = .ok (.ifCond .ne 5, 3) := by decide +kernel
theorem dX5_count_15 : decode cX5_count 15 = .ok (.iconst (-1), 1) := by decide +kernel
theorem dX5_count_16 : decode cX5_count 16 = .ok (.ireturn, 1) := by decide +kernel
theorem dX5_count_17 : decode cX5_count 17 = .ok (.iload_n 1, 1) := by decide +kernel
theorem dX5_count_18 : decode cX5_count 18 = .ok (.bipush 8, 2) := by decide +kernel
theorem dX5_count_20 : decode cX5_count 20 = .ok (.if_icmp .ge 10, 3) := by decide +kernel
theorem dX5_count_23 : decode cX5_count 23 = .ok (.aload_n 0, 1) := by decide +kernel
theorem dX5_count_24 : decode cX5_count 24 = .ok (.getfield 47, 3) := by decide +kernel
theorem dX5_count_27 : decode cX5_count 27 = .ok (.iload_n 1, 1) := by decide +kernel
theorem dX5_count_28 : decode cX5_count 28 = .ok (.iaload, 1) := by decide +kernel
theorem dX5_count_29 : decode cX5_count 29 = .ok (.ireturn, 1) := by decide +kernel
theorem dX5_count_30 : decode cX5_count 30 = .ok (.iconst 0, 1) := by decide +kernel
theorem dX5_count_31 : decode cX5_count 31 = .ok (.istore_n 2, 1) := by decide +kernel
theorem dX5_count_32 : decode cX5_count 32 = .ok (.iconst 0, 1) := by decide +kernel
theorem dX5_count_33 : decode cX5_count 33 = .ok (.istore_n 3, 1) := by decide +kernel
theorem dX5_count_34 : decode cX5_count 34 = .ok (.iload_n 3, 1) := by decide +kernel
theorem dX5_count_35 : decode cX5_count 35 = .ok (.bipush 64, 2) := by decide +kernel
theorem dX5_count_37 : decode cX5_count 37 = .ok (.if_icmp .ge 26, 3) := by decide +kernel
theorem dX5_count_40 : decode cX5_count 40 = .ok (.iload_n 2, 1) := by decide +kernel
theorem dX5_count_41 : decode cX5_count 41 = .ok (.aload_n 0, 1) := by decide +kernel
theorem dX5_count_42 : decode cX5_count 42 = .ok (.getfield 7, 3) := by decide +kernel
theorem dX5_count_45 : decode cX5_count 45 = .ok (.iload_n 3, 1) := by decide +kernel
theorem dX5_count_46 : decode cX5_count 46 = .ok (.baload, 1) := by decide +kernel
theorem dX5_count_47 : decode cX5_count 47 = .ok (.ifCond .eq 7, 3) := by decide +kernel
theorem dX5_count_50 : decode cX5_count 50 = .ok (.iconst 1, 1) := by decide +kernel
theorem dX5_count_51 : decode cX5_count 51 = .ok (.goto 4, 3) := by decide +kernel
theorem dX5_count_54 : decode cX5_count 54 = .ok (.iconst 0, 1) := by decide +kernel
theorem dX5_count_55 : decode cX5_count 55 = .ok (.iadd, 1) := by decide +kernel
theorem dX5_count_56 : decode cX5_count 56 = .ok (.istore_n 2, 1) := by decide +kernel
theorem dX5_count_57 : decode cX5_count 57 = .ok (.iinc 3 1, 3) := by decide +kernel
theorem dX5_count_60 : decode cX5_count 60 = .ok (.goto (-26), 3) := by decide +kernel
theorem dX5_count_63 : decode cX5_count 63 = .ok (.iload_n 1, 1) := by decide +kernel
theorem dX5_count_64 : decode cX5_count 64 = .ok (.tableswitch 94 8 16 #[52, 57, 62, 67, 72, 74, 79, 84, 89], 52) := by decide +kernel
theorem dX5_count_116 : decode cX5_count 116 = .ok (.aload_n 0, 1) := by decide +kernel
theorem dX5_count_117 : decode cX5_count 117 = .ok (.getfield 83, 3) := by decide +kernel
theorem dX5_count_120 : decode cX5_count 120 = .ok (.ireturn, 1) := by decide +kernel
theorem dX5_count_121 : decode cX5_count 121 = .ok (.aload_n 0, 1) := by decide +kernel
theorem dX5_count_122 : decode cX5_count 122 = .ok (.getfield 86, 3) := by decide +kernel

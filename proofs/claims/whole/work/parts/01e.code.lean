theorem dX5_tell_45 : decode cX5_tell 45 = .ok (.iconst 1, 1) := by decide +kernel
theorem dX5_tell_46 : decode cX5_tell 46 = .ok (.isub, 1) := by decide +kernel
theorem dX5_tell_47 : decode cX5_tell 47 = .ok (.iaload, 1) := by decide +kernel
theorem dX5_tell_48 : decode cX5_tell 48 = .ok (.ireturn, 1) := by decide +kernel
theorem dX5_tell_49 : decode cX5_tell 49 = .ok (.aload_n 0, 1) := by decide +kernel
theorem dX5_tell_50 : decode cX5_tell 50 = .ok (.getfield 17, 3) := by decide +kernel
theorem dX5_tell_53 : decode cX5_tell 53 = .ok (.iload_n 2, 1) := by decide +kernel
theorem dX5_tell_54 : decode cX5_tell 54 = .ok (.iaload, 1) := by decide +kernel
theorem dX5_tell_55 : decode cX5_tell 55 = .ok (.iconst 3, 1) := by decide +kernel
theorem dX5_tell_56 : decode cX5_tell 56 = .ok (.if_icmp .ne 23, 3) := by decide +kernel
theorem dX5_tell_59 : decode cX5_tell 59 = .ok (.aload_n 0, 1) := by decide +kernel
theorem dX5_tell_60 : decode cX5_tell 60 = .ok (.getfield 26, 3) := by decide +kernel
theorem dX5_tell_63 : decode cX5_tell 63 = .ok (.iload_n 3, 1) := by decide +kernel
theorem dX5_tell_64 : decode cX5_tell 64 = .ok (.iaload, 1) := by decide +kernel
theorem dX5_tell_65 : decode cX5_tell 65 = .ok (.iload_n 1, 1) := by decide +kernel
theorem dX5_tell_66 : decode cX5_tell 66 = .ok (.invokestatic 95, 3) := by decide +kernel
theorem dX5_tell_69 : decode cX5_tell 69 = .ok (.if_icmp .ne 10, 3) := by decide +kernel
theorem dX5_tell_72 : decode cX5_tell 72 = .ok (.aload_n 0, 1) := by decide +kernel
theorem dX5_tell_73 : decode cX5_tell 73 = .ok (.getfield 29, 3) := by decide +kernel
theorem dX5_tell_76 : decode cX5_tell 76 = .ok (.iload_n 3, 1) := by decide +kernel
theorem dX5_tell_77 : decode cX5_tell 77 = .ok (.iaload, 1) := by decide +kernel
theorem dX5_tell_78 : decode cX5_tell 78 = .ok (.ireturn, 1) := by decide +kernel
theorem dX5_tell_79 : decode cX5_tell 79 = .ok (.aload_n 0, 1) := by decide +kernel
theorem dX5_tell_80 : decode cX5_tell 80 = .ok (.getfield 20, 3) := by decide +kernel
theorem dX5_tell_83 : decode cX5_tell 83 = .ok (.iload_n 2, 1) := by decide +kernel
theorem dX5_tell_84 : decode cX5_tell 84 = .ok (.iaload, 1) := by decide +kernel
theorem dX5_tell_85 : decode cX5_tell 85 = .ok (.ireturn, 1) := by decide +kernel
theorem dX5_find_0 : decode cX5_find 0 = .ok (.iconst (-1), 1) := by decide +kernel
theorem dX5_find_1 : decode cX5_find 1 = .ok (.istore_n 2, 1) := by decide +kernel
theorem dX5_find_2 : decode cX5_find 2 = .ok (.iconst 0, 1) := by decide +kernel
theorem dX5_find_3 : decode cX5_find 3 = .ok (.istore_n 3, 1) := by decide +kernel
theorem dX5_find_4 : decode cX5_find 4 = .ok (.iload_n 3, 1) := by decide +kernel
theorem dX5_find_5 : decode cX5_find 5 = .ok (.aload_n 0, 1) := by decide +kernel
theorem dX5_find_6 : decode cX5_find 6 = .ok (.getfield 61, 3) := by decide +kernel
theorem dX5_find_9 : decode cX5_find 9 = .ok (.if_icmp .ge 63, 3) := by decide +kernel
theorem dX5_find_12 : decode cX5_find 12 = .ok (.aload_n 0, 1) := by decide +kernel
theorem dX5_find_13 : decode cX5_find 13 = .ok (.getfield 54, 3) := by decide +kernel
theorem dX5_find_16 : decode cX5_find 16 = .ok (.ifCond .le 56, 3) := by decide +kernel
theorem dX5_find_19 : decode cX5_find 19 = .ok (.aload_n 0, 1) := by decide +kernel
theorem dX5_find_20 : decode cX5_find 20 = .ok (.getfield 7, 3) := by decide +kernel
theorem dX5_find_23 : decode cX5_find 23 = .ok (.aload_n 0, 1) := by decide +kernel
theorem dX5_find_24 : decode cX5_find 24 = .ok (.iload_n 1, 1) := by decide +kernel
theorem dX5_find_25 : decode cX5_find 25 = .ok (.invokevirtual 70, 3) := by decide +kernel
theorem dX5_find_28 : decode cX5_find 28 = .ok (.iload_n 3, 1) := by decide +kernel
theorem dX5_find_29 : decode cX5_find 29 = .ok (.iadd, 1) := by decide +kernel
theorem dX5_find_30 : decode cX5_find 30 = .ok (.baload, 1) := by decide +kernel
theorem dX5_find_31 : decode cX5_find 31 = .ok (.ifCond .eq 33, 3) := by decide +kernel
theorem dX5_find_34 : decode cX5_find 34 = .ok (.aload_n 0, 1) := by decide +kernel
theorem dX5_find_35 : decode cX5_find 35 = .ok (.getfield 13, 3) := by decide +kernel
theorem dX5_find_38 : decode cX5_find 38 = .ok (.aload_n 0, 1) := by decide +kernel
theorem dX5_find_39 : decode cX5_find 39 = .ok (.iload_n 1, 1) := by decide +kernel
theorem dX5_find_40 : decode cX5_find 40 = .ok (.invokevirtual 70, 3) := by decide +kernel
theorem dX5_find_43 : decode cX5_find 43 = .ok (.iload_n 3, 1) := by decide +kernel
theorem dX5_find_44 : decode cX5_find 44 = .ok (.iadd, 1) := by decide +kernel
theorem dX5_find_45 : decode cX5_find 45 = .ok (.iaload, 1) := by decide +kernel
theorem dX5_find_46 : decode cX5_find 46 = .ok (.aload_n 0, 1) := by decide +kernel
theorem dX5_find_47 : decode cX5_find 47 = .ok (.iload_n 1, 1) := by decide +kernel
theorem dX5_find_48 : decode cX5_find 48 = .ok (.invokevirtual 74, 3) := by decide +kernel
theorem dX5_find_51 : decode cX5_find 51 = .ok (.if_icmp .ne 13, 3) := by decide +kernel
theorem dX5_find_54 : decode cX5_find 54 = .ok (.aload_n 0, 1) := by decide +kernel
theorem dX5_find_55 : decode cX5_find 55 = .ok (.iload_n 1, 1) := by decide +kernel
theorem dX5_find_56 : decode cX5_find 56 = .ok (.invokevirtual 70, 3) := by decide +kernel
theorem dX5_find_59 : decode cX5_find 59 = .ok (.iload_n 3, 1) := by decide +kernel
theorem dX5_find_60 : decode cX5_find 60 = .ok (.iadd, 1) := by decide +kernel
theorem dX5_find_61 : decode cX5_find 61 = .ok (.goto 4, 3) := by decide +kernel
theorem dX5_find_64 : decode cX5_find 64 = .ok (.iload_n 2, 1) := by decide +kernel
theorem dX5_find_65 : decode cX5_find 65 = .ok (.istore_n 2, 1) := by decide +kernel
theorem dX5_find_66 : decode cX5_find 66 = .ok (.iinc 3 1, 3) := by decide +kernel
theorem dX5_find_69 : decode cX5_find 69 = .ok (.goto (-65), 3) := by decide +kernel
theorem dX5_find_72 : decode cX5_find 72 = .ok (.iload_n 2, 1) := by decide +kernel
theorem dX5_find_73 : decode cX5_find 73 = .ok (.ireturn, 1) := by decide +kernel
theorem dX5_firstOf_0 : decode cX5_firstOf 0 = .ok (.iconst 4, 1) := by decide +kernel
theorem dX5_firstOf_1 : decode cX5_firstOf 1 = .ok (.iload_n 1, 1) := by decide +kernel
theorem dX5_firstOf_2 : decode cX5_firstOf 2 = .ok (.iconst 2, 1) := by decide +kernel
theorem dX5_firstOf_3 : decode cX5_firstOf 3 = .ok (.iushr, 1) := by decide +kernel
theorem dX5_firstOf_4 : decode cX5_firstOf 4 = .ok (.aload_n 0, 1) := by decide +kernel
theorem dX5_firstOf_5 : decode cX5_firstOf 5 = .ok (.getfield 54, 3) := by decide +kernel
theorem dX5_firstOf_8 : decode cX5_firstOf 8 = .ok (.iconst 1, 1) := by decide +kernel
theorem dX5_firstOf_9 : decode cX5_firstOf 9 = .ok (.isub, 1) := by decide +kernel
theorem dX5_firstOf_10 : decode cX5_firstOf 10 = .ok (.iand, 1) := by decide +kernel
theorem dX5_firstOf_11 : decode cX5_firstOf 11 = .ok (.imul, 1) := by decide +kernel
theorem dX5_firstOf_12 : decode cX5_firstOf 12 = .ok (.ireturn, 1) := by decide +kernel
theorem dX5_tagOf_0 : decode cX5_tagOf 0 = .ok (.iload_n 1, 1) := by decide +kernel
theorem dX5_tagOf_1 : decode cX5_tagOf 1 = .ok (.iconst 2, 1) := by decide +kernel
theorem dX5_tagOf_2 : decode cX5_tagOf 2 = .ok (.aload_n 0, 1) := by decide +kernel
theorem dX5_tagOf_3 : decode cX5_tagOf 3 = .ok (.getfield 58, 3) := by decide +kernel
theorem dX5_tagOf_6 : decode cX5_tagOf 6 = .ok (.iadd, 1) := by decide +kernel
theorem dX5_tagOf_7 : decode cX5_tagOf 7 = .ok (.iushr, 1) := by decide +kernel
theorem dX5_tagOf_8 : decode cX5_tagOf 8 = .ok (.sipush 255, 3) := by decide +kernel
theorem dX5_tagOf_11 : decode cX5_tagOf 11 = .ok (.iand, 1) := by decide +kernel
theorem dX5_tagOf_12 : decode cX5_tagOf 12 = .ok (.ireturn, 1) := by decide +kernel
theorem dX5_rowOf_0 : decode cX5_rowOf 0 = .ok (.iload_n 1, 1) := by decide +kernel
theorem dX5_rowOf_1 : decode cX5_rowOf 1 = .ok (.iconst 2, 1) := by decide +kernel
theorem dX5_rowOf_2 : decode cX5_rowOf 2 = .ok (.iushr, 1) := by decide +kernel
theorem dX5_rowOf_3 : decode cX5_rowOf 3 = .ok (.aload_n 0, 1) := by decide +kernel
theorem dX5_rowOf_4 : decode cX5_rowOf 4 = .ok (.getfield 77, 3) := by decide +kernel
theorem dX5_rowOf_7 : decode cX5_rowOf 7 = .ok (.ixor, 1) := by decide +kernel
theorem dX5_rowOf_8 : decode cX5_rowOf 8 = .ok (.aload_n 0, 1) := by decide +kernel
theorem dX5_rowOf_9 : decode cX5_rowOf 9 = .ok (.getfield 77, 3) := by decide +kernel
theorem dX5_rowOf_12 : decode cX5_rowOf 12 = .ok (.bipush 6, 2) := by decide +kernel
theorem dX5_rowOf_14 : decode cX5_rowOf 14 = .ok (.ishr, 1) := by decide +kernel
theorem dX5_rowOf_15 : decode cX5_rowOf 15 = .ok (.ixor, 1) := by decide +kernel
theorem dX5_rowOf_16 : decode cX5_rowOf 16 = .ok (.aload_n 0, 1) := by decide +kernel
theorem dX5_rowOf_17 : decode cX5_rowOf 17 = .ok (.getfield 77, 3) := by decide +kernel
theorem dX5_rowOf_20 : decode cX5_rowOf 20 = .ok (.bipush 12, 2) := by decide +kernel
theorem dX5_rowOf_22 : decode cX5_rowOf 22 = .ok (.ishr, 1) := by decide +kernel
theorem dX5_rowOf_23 : decode cX5_rowOf 23 = .ok (.ixor, 1) := by decide +kernel
theorem dX5_rowOf_24 : decode cX5_rowOf 24 = .ok (.aload_n 0, 1) := by decide +kernel
theorem dX5_rowOf_25 : decode cX5_rowOf 25 = .ok (.getfield 77, 3) := by decide +kernel
theorem dX5_rowOf_28 : decode cX5_rowOf 28 = .ok (.bipush 18, 2) := by decide +kernel
theorem dX5_rowOf_30 : decode cX5_rowOf 30 = .ok (.ishr, 1) := by decide +kernel
theorem dX5_rowOf_31 : decode cX5_rowOf 31 = .ok (.ixor, 1) := by decide +kernel
theorem dX5_rowOf_32 : decode cX5_rowOf 32 = .ok (.bipush 63, 2) := by decide +kernel
theorem dX5_rowOf_34 : decode cX5_rowOf 34 = .ok (.iand, 1) := by decide +kernel
theorem dX5_rowOf_35 : decode cX5_rowOf 35 = .ok (.ireturn, 1) := by decide +kernel
theorem dX5_rowTagOf_0 : decode cX5_rowTagOf 0 = .ok (.iload_n 0, 1) := by decide +kernel
theorem dX5_rowTagOf_1 : decode cX5_rowTagOf 1 = .ok (.bipush 8, 2) := by decide +kernel
theorem dX5_rowTagOf_3 : decode cX5_rowTagOf 3 = .ok (.iushr, 1) := by decide +kernel
theorem dX5_rowTagOf_4 : decode cX5_rowTagOf 4 = .ok (.sipush 255, 3) := by decide +kernel
theorem dX5_rowTagOf_7 : decode cX5_rowTagOf 7 = .ok (.iand, 1) := by decide +kernel
theorem dX5_rowTagOf_8 : decode cX5_rowTagOf 8 = .ok (.ireturn, 1) := by decide +kernel
theorem dX5_next_0 : decode cX5_next 0 = .ok (.aload_n 0, 1) := by decide +kernel
theorem dX5_next_1 : decode cX5_next 1 = .ok (.iconst 0, 1) := by decide +kernel
theorem dX5_next_2 : decode cX5_next 2 = .ok (.putfield 67, 3) := by decide +kernel
theorem dX5_next_5 : decode cX5_next 5 = .ok (.aload_n 0, 1) := by decide +kernel
theorem dX5_next_6 : decode cX5_next 6 = .ok (.getfield 101, 3) := by decide +kernel
theorem dX5_next_9 : decode cX5_next 9 = .ok (.bipush 16, 2) := by decide +kernel
theorem dX5_next_11 : decode cX5_next 11 = .ok (.if_icmp .ne 9, 3) := by decide +kernel
theorem dX5_next_14 : decode cX5_next 14 = .ok (.aload_n 0, 1) := by decide +kernel
theorem dX5_next_15 : decode cX5_next 15 = .ok (.iconst 1, 1) := by decide +kernel
theorem dX5_next_16 : decode cX5_next 16 = .ok (.invokevirtual 104, 3) := by decide +kernel
theorem dX5_next_19 : decode cX5_next 19 = .ok (.ireturn, 1) := by decide +kernel
theorem dX5_next_20 : decode cX5_next 20 = .ok (.aload_n 0, 1) := by decide +kernel
theorem dX5_next_21 : decode cX5_next 21 = .ok (.getfield 35, 3) := by decide +kernel
theorem dX5_next_24 : decode cX5_next 24 = .ok (.aload_n 0, 1) := by decide +kernel
theorem dX5_next_25 : decode cX5_next 25 = .ok (.getfield 101, 3) := by decide +kernel
theorem dX5_next_28 : decode cX5_next 28 = .ok (.iload_n 1, 1) := by decide +kernel
theorem dX5_next_29 : decode cX5_next 29 = .ok (.iastore, 1) := by decide +kernel
theorem dX5_next_30 : decode cX5_next 30 = .ok (.aload_n 0, 1) := by decide +kernel
theorem dX5_next_31 : decode cX5_next 31 = .ok (.getfield 38, 3) := by decide +kernel
theorem dX5_next_34 : decode cX5_next 34 = .ok (.aload_n 0, 1) := by decide +kernel
theorem dX5_next_35 : decode cX5_next 35 = .ok (.getfield 101, 3) := by decide +kernel
theorem dX5_next_38 : decode cX5_next 38 = .ok (.aload_n 0, 1) := by decide +kernel
theorem dX5_next_39 : decode cX5_next 39 = .ok (.iload_n 1, 1) := by decide +kernel
theorem dX5_next_40 : decode cX5_next 40 = .ok (.invokevirtual 98, 3) := by decide +kernel
theorem dX5_next_43 : decode cX5_next 43 = .ok (.iastore, 1) := by decide +kernel
theorem dX5_next_44 : decode cX5_next 44 = .ok (.aload_n 0, 1) := by decide +kernel
theorem dX5_next_45 : decode cX5_next 45 = .ok (.getfield 41, 3) := by decide +kernel
theorem dX5_next_48 : decode cX5_next 48 = .ok (.aload_n 0, 1) := by decide +kernel
theorem dX5_next_49 : decode cX5_next 49 = .ok (.getfield 101, 3) := by decide +kernel
theorem dX5_next_52 : decode cX5_next 52 = .ok (.aload_n 0, 1) := by decide +kernel
theorem dX5_next_53 : decode cX5_next 53 = .ok (.getfield 80, 3) := by decide +kernel
theorem dX5_next_56 : decode cX5_next 56 = .ok (.iastore, 1) := by decide +kernel
theorem dX5_next_57 : decode cX5_next 57 = .ok (.iconst 0, 1) := by decide +kernel
theorem dX5_next_58 : decode cX5_next 58 = .ok (.istore_n 2, 1) := by decide +kernel
theorem dX5_next_59 : decode cX5_next 59 = .ok (.iload_n 2, 1) := by decide +kernel
theorem dX5_next_60 : decode cX5_next 60 = .ok (.bipush 17, 2) := by decide +kernel
theorem dX5_next_62 : decode cX5_next 62 = .ok (.if_icmp .ge 29, 3) := by decide +kernel
theorem dX5_next_65 : decode cX5_next 65 = .ok (.aload_n 0, 1) := by decide +kernel
theorem dX5_next_66 : decode cX5_next 66 = .ok (.getfield 44, 3) := by decide +kernel
theorem dX5_next_69 : decode cX5_next 69 = .ok (.bipush 17, 2) := by decide +kernel
theorem dX5_next_71 : decode cX5_next 71 = .ok (.aload_n 0, 1) := by decide +kernel
theorem dX5_next_72 : decode cX5_next 72 = .ok (.getfield 101, 3) := by decide +kernel
theorem dX5_next_75 : decode cX5_next 75 = .ok (.imul, 1) := by decide +kernel
theorem dX5_next_76 : decode cX5_next 76 = .ok (.iload_n 2, 1) := by decide +kernel
theorem dX5_next_77 : decode cX5_next 77 = .ok (.iadd, 1) := by decide +kernel
theorem dX5_next_78 : decode cX5_next 78 = .ok (.aload_n 0, 1) := by decide +kernel
theorem dX5_next_79 : decode cX5_next 79 = .ok (.getfield 32, 3) := by decide +kernel
theorem dX5_next_82 : decode cX5_next 82 = .ok (.iload_n 2, 1) := by decide +kernel
theorem dX5_next_83 : decode cX5_next 83 = .ok (.iaload, 1) := by decide +kernel
theorem dX5_next_84 : decode cX5_next 84 = .ok (.iastore, 1) := by decide +kernel
theorem dX5_next_85 : decode cX5_next 85 = .ok (.iinc 2 1, 3) := by decide +kernel
theorem dX5_next_88 : decode cX5_next 88 = .ok (.goto (-29), 3) := by decide +kernel
theorem dX5_next_91 : decode cX5_next 91 = .ok (.aload_n 0, 1) := by decide +kernel
theorem dX5_next_92 : decode cX5_next 92 = .ok (.dup, 1) := by decide +kernel
theorem dX5_next_93 : decode cX5_next 93 = .ok (.getfield 101, 3) := by decide +kernel
theorem dX5_next_96 : decode cX5_next 96 = .ok (.iconst 1, 1) := by decide +kernel
theorem dX5_next_97 : decode cX5_next 97 = .ok (.iadd, 1) := by decide +kernel
theorem dX5_next_98 : decode cX5_next 98 = .ok (.putfield 101, 3) := by decide +kernel
theorem dX5_next_101 : decode cX5_next 101 = .ok (.aload_n 0, 1) := by decide +kernel
theorem dX5_next_102 : decode cX5_next 102 = .ok (.iload_n 1, 1) := by decide +kernel
theorem dX5_next_103 : decode cX5_next 103 = .ok (.invokevirtual 89, 3) := by decide +kernel
theorem dX5_next_106 : decode cX5_next 106 = .ok (.istore_n 2, 1) := by decide +kernel
theorem dX5_next_107 : decode cX5_next 107 = .ok (.iload_n 2, 1) := by decide +kernel
theorem dX5_next_108 : decode cX5_next 108 = .ok (.ifCond .lt 20, 3) := by decide +kernel
theorem dX5_next_111 : decode cX5_next 111 = .ok (.aload_n 0, 1) := by decide +kernel
theorem dX5_next_112 : decode cX5_next 112 = .ok (.getfield 17, 3) := by decide +kernel
theorem dX5_next_115 : decode cX5_next 115 = .ok (.iload_n 2, 1) := by decide +kernel
theorem dX5_next_116 : decode cX5_next 116 = .ok (.iaload, 1) := by decide +kernel
theorem dX5_next_117 : decode cX5_next 117 = .ok (.iconst 1, 1) := by decide +kernel
theorem dX5_next_118 : decode cX5_next 118 = .ok (.if_icmp .ne 10, 3) := by decide +kernel
theorem dX5_next_121 : decode cX5_next 121 = .ok (.aload_n 0, 1) := by decide +kernel
theorem dX5_next_122 : decode cX5_next 122 = .ok (.iload_n 1, 1) := by decide +kernel
theorem dX5_next_123 : decode cX5_next 123 = .ok (.iconst 4, 1) := by decide +kernel
theorem dX5_next_124 : decode cX5_next 124 = .ok (.iadd, 1) := by decide +kernel
theorem dX5_next_125 : decode cX5_next 125 = .ok (.invokevirtual 107, 3) := by decide +kernel
theorem dX5_next_128 : decode cX5_next 128 = .ok (.iload_n 2, 1) := by decide +kernel
theorem dX5_next_129 : decode cX5_next 129 = .ok (.ifCond .lt 17, 3) := by decide +kernel
theorem dX5_next_132 : decode cX5_next 132 = .ok (.aload_n 0, 1) := by decide +kernel
theorem dX5_next_133 : decode cX5_next 133 = .ok (.getfield 17, 3) := by decide +kernel
theorem dX5_next_136 : decode cX5_next 136 = .ok (.iload_n 2, 1) := by decide +kernel
theorem dX5_next_137 : decode cX5_next 137 = .ok (.iaload, 1) := by decide +kernel
theorem dX5_next_138 : decode cX5_next 138 = .ok (.iconst 2, 1) := by decide +kernel
theorem dX5_next_139 : decode cX5_next 139 = .ok (.if_icmp .ne 7, 3) := by decide +kernel
theorem dX5_next_142 : decode cX5_next 142 = .ok (.aload_n 0, 1) := by decide +kernel
theorem dX5_next_143 : decode cX5_next 143 = .ok (.invokevirtual 111, 3) := by decide +kernel
theorem dX5_next_146 : decode cX5_next 146 = .ok (.aload_n 0, 1) := by decide +kernel
theorem dX5_next_147 : decode cX5_next 147 = .ok (.getfield 38, 3) := by decide +kernel
theorem dX5_next_150 : decode cX5_next 150 = .ok (.aload_n 0, 1) := by decide +kernel
theorem dX5_next_151 : decode cX5_next 151 = .ok (.getfield 101, 3) := by decide +kernel
theorem dX5_next_154 : decode cX5_next 154 = .ok (.iconst 1, 1) := by decide +kernel
theorem dX5_next_155 : decode cX5_next 155 = .ok (.isub, 1) := by decide +kernel
theorem dX5_next_156 : decode cX5_next 156 = .ok (.iaload, 1) := by decide +kernel
theorem dX5_next_157 : decode cX5_next 157 = .ok (.ireturn, 1) := by decide +kernel
theorem dX5_fail_0 : decode cX5_fail 0 = .ok (.aload_n 0, 1) := by decide +kernel
theorem dX5_fail_1 : decode cX5_fail 1 = .ok (.iload_n 1, 1) := by decide +kernel
theorem dX5_fail_2 : decode cX5_fail 2 = .ok (.putfield 67, 3) := by decide +kernel
theorem dX5_fail_5 : decode cX5_fail 5 = .ok (.iconst 0, 1) := by decide +kernel
theorem dX5_fail_6 : decode cX5_fail 6 = .ok (.ireturn, 1) := by decide +kernel
theorem dX5_push_0 : decode cX5_push 0 = .ok (.aload_n 0, 1) := by decide +kernel
theorem dX5_push_1 : decode cX5_push 1 = .ok (.getfield 80, 3) := by decide +kernel
theorem dX5_push_4 : decode cX5_push 4 = .ok (.aload_n 0, 1) := by decide +kernel
theorem dX5_push_5 : decode cX5_push 5 = .ok (.getfield 64, 3) := by decide +kernel
theorem dX5_push_8 : decode cX5_push 8 = .ok (.if_icmp .ne 65, 3) := by decide +kernel
theorem dX5_push_11 : decode cX5_push 11 = .ok (.aload_n 0, 1) := by decide +kernel
theorem dX5_push_12 : decode cX5_push 12 = .ok (.dup, 1) := by decide +kernel
theorem dX5_push_13 : decode cX5_push 13 = .ok (.getfield 83, 3) := by decide +kernel
theorem dX5_push_16 : decode cX5_push 16 = .ok (.iconst 1, 1) := by decide +kernel
theorem dX5_push_17 : decode cX5_push 17 = .ok (.iadd, 1) := by decide +kernel
theorem dX5_push_18 : decode cX5_push 18 = .ok (.putfield 83, 3) := by decide +kernel
theorem dX5_push_21 : decode cX5_push 21 = .ok (.iconst 0, 1) := by decide +kernel
theorem dX5_push_22 : decode cX5_push 22 = .ok (.istore_n 2, 1) := by decide +kernel
theorem dX5_push_23 : decode cX5_push 23 = .ok (.iload_n 2, 1) := by decide +kernel
theorem dX5_push_24 : decode cX5_push 24 = .ok (.iconst 1, 1) := by decide +kernel
theorem dX5_push_25 : decode cX5_push 25 = .ok (.iadd, 1) := by decide +kernel
theorem dX5_push_26 : decode cX5_push 26 = .ok (.aload_n 0, 1) := by decide +kernel
theorem dX5_push_27 : decode cX5_push 27 = .ok (.getfield 80, 3) := by decide +kernel
theorem dX5_push_30 : decode cX5_push 30 = .ok (.if_icmp .ge 23, 3) := by decide +kernel
theorem dX5_push_33 : decode cX5_push 33 = .ok (.aload_n 0, 1) := by decide +kernel
theorem dX5_push_34 : decode cX5_push 34 = .ok (.getfield 32, 3) := by decide +kernel
theorem dX5_push_37 : decode cX5_push 37 = .ok (.iload_n 2, 1) := by decide +kernel
theorem dX5_push_38 : decode cX5_push 38 = .ok (.aload_n 0, 1) := by decide +kernel
theorem dX5_push_39 : decode cX5_push 39 = .ok (.getfield 32, 3) := by decide +kernel
theorem dX5_push_42 : decode cX5_push 42 = .ok (.iload_n 2, 1) := by decide +kernel
theorem dX5_push_43 : decode cX5_push 43 = .ok (.iconst 1, 1) := by decide +kernel
theorem dX5_push_44 : decode cX5_push 44 = .ok (.iadd, 1) := by decide +kernel
theorem dX5_push_45 : decode cX5_push 45 = .ok (.iaload, 1) := by decide +kernel
theorem dX5_push_46 : decode cX5_push 46 = .ok (.iastore, 1) := by decide +kernel
theorem dX5_push_47 : decode cX5_push 47 = .ok (.iinc 2 1, 3) := by decide +kernel
theorem dX5_push_50 : decode cX5_push 50 = .ok (.goto (-27), 3) := by decide +kernel
theorem dX5_push_53 : decode cX5_push 53 = .ok (.aload_n 0, 1) := by decide +kernel
theorem dX5_push_54 : decode cX5_push 54 = .ok (.getfield 64, 3) := by decide +kernel
theorem dX5_push_57 : decode cX5_push 57 = .ok (.ifCond .le 15, 3) := by decide +kernel
theorem dX5_push_60 : decode cX5_push 60 = .ok (.aload_n 0, 1) := by decide +kernel
theorem dX5_push_61 : decode cX5_push 61 = .ok (.getfield 32, 3) := by decide +kernel
theorem dX5_push_64 : decode cX5_push 64 = .ok (.aload_n 0, 1) := by decide +kernel
theorem dX5_push_65 : decode cX5_push 65 = .ok (.getfield 80, 3) := by decide +kernel
theorem dX5_push_68 : decode cX5_push 68 = .ok (.iconst 1, 1) := by decide +kernel
theorem dX5_push_69 : decode cX5_push 69 = .ok (.isub, 1) := by decide +kernel
theorem dX5_push_70 : decode cX5_push 70 = .ok (.iload_n 1, 1) := by decide +kernel
theorem dX5_push_71 : decode cX5_push 71 = .ok (.iastore, 1) := by decide +kernel
theorem dX5_push_72 : decode cX5_push 72 = .ok (.return_, 1) := by decide +kernel
theorem dX5_push_73 : decode cX5_push 73 = .ok (.aload_n 0, 1) := by decide +kernel
theorem dX5_push_74 : decode cX5_push 74 = .ok (.getfield 32, 3) := by decide +kernel
theorem dX5_push_77 : decode cX5_push 77 = .ok (.aload_n 0, 1) := by decide +kernel
theorem dX5_push_78 : decode cX5_push 78 = .ok (.getfield 80, 3) := by decide +kernel
theorem dX5_push_81 : decode cX5_push 81 = .ok (.iload_n 1, 1) := by decide +kernel
theorem dX5_push_82 : decode cX5_push 82 = .ok (.iastore, 1) := by decide +kernel
theorem dX5_push_83 : decode cX5_push 83 = .ok (.aload_n 0, 1) := by decide +kernel
theorem dX5_push_84 : decode cX5_push 84 = .ok (.dup, 1) := by decide +kernel
theorem dX5_push_85 : decode cX5_push 85 = .ok (.getfield 80, 3) := by decide +kernel
theorem dX5_push_88 : decode cX5_push 88 = .ok (.iconst 1, 1) := by decide +kernel
theorem dX5_push_89 : decode cX5_push 89 = .ok (.iadd, 1) := by decide +kernel
theorem dX5_push_90 : decode cX5_push 90 = .ok (.putfield 80, 3) := by decide +kernel
theorem dX5_push_93 : decode cX5_push 93 = .ok (.return_, 1) := by decide +kernel
theorem dX5_pop_0 : decode cX5_pop 0 = .ok (.aload_n 0, 1) := by decide +kernel
theorem dX5_pop_1 : decode cX5_pop 1 = .ok (.getfield 80, 3) := by decide +kernel
theorem dX5_pop_4 : decode cX5_pop 4 = .ok (.ifCond .ne 16, 3) := by decide +kernel
theorem dX5_pop_7 : decode cX5_pop 7 = .ok (.aload_n 0, 1) := by decide +kernel
theorem dX5_pop_8 : decode cX5_pop 8 = .ok (.dup, 1) := by decide +kernel
theorem dX5_pop_9 : decode cX5_pop 9 = .ok (.getfield 86, 3) := by decide +kernel
theorem dX5_pop_12 : decode cX5_pop 12 = .ok (.iconst 1, 1) := by decide +kernel
theorem dX5_pop_13 : decode cX5_pop 13 = .ok (.iadd, 1) := by decide +kernel
theorem dX5_pop_14 : decode cX5_pop 14 = .ok (.putfield 86, 3) := by decide +kernel
theorem dX5_pop_17 : decode cX5_pop 17 = .ok (.goto 13, 3) := by decide +kernel
theorem dX5_pop_20 : decode cX5_pop 20 = .ok (.aload_n 0, 1) := by decide +kernel
theorem dX5_pop_21 : decode cX5_pop 21 = .ok (.dup, 1) := by decide +kernel
theorem dX5_pop_22 : decode cX5_pop 22 = .ok (.getfield 80, 3) := by decide +kernel
theorem dX5_pop_25 : decode cX5_pop 25 = .ok (.iconst 1, 1) := by decide +kernel
theorem dX5_pop_26 : decode cX5_pop 26 = .ok (.isub, 1) := by decide +kernel
theorem dX5_pop_27 : decode cX5_pop 27 = .ok (.putfield 80, 3) := by decide +kernel
theorem dX5_pop_30 : decode cX5_pop 30 = .ok (.return_, 1) := by decide +kernel
theorem dX5_check_0 : decode cX5_check 0 = .ok (.aload_n 0, 1) := by decide +kernel
theorem dX5_check_1 : decode cX5_check 1 = .ok (.iconst 0, 1) := by decide +kernel
theorem dX5_check_2 : decode cX5_check 2 = .ok (.putfield 67, 3) := by decide +kernel
theorem dX5_check_5 : decode cX5_check 5 = .ok (.iload_n 1, 1) := by decide +kernel
theorem dX5_check_6 : decode cX5_check 6 = .ok (.iconst 0, 1) := by decide +kernel
theorem dX5_check_7 : decode cX5_check 7 = .ok (.iconst 3, 1) := by decide +kernel
theorem dX5_check_8 : decode cX5_check 8 = .ok (.invokestatic 121, 3) := by decide +kernel
theorem dX5_check_11 : decode cX5_check 11 = .ok (.ifCond .ne 9, 3) := by decide +kernel
theorem dX5_check_14 : decode cX5_check 14 = .ok (.aload_n 0, 1) := by decide +kernel
theorem dX5_check_15 : decode cX5_check 15 = .ok (.iconst 1, 1) := by decide +kernel
theorem dX5_check_16 : decode cX5_check 16 = .ok (.invokevirtual 104, 3) := by decide +kernel
theorem dX5_check_19 : decode cX5_check 19 = .ok (.ireturn, 1) := by decide +kernel
theorem dX5_check_20 : decode cX5_check 20 = .ok (.aload_n 0, 1) := by decide +kernel
theorem dX5_check_21 : decode cX5_check 21 = .ok (.getfield 101, 3) := by decide +kernel
theorem dX5_check_24 : decode cX5_check 24 = .ok (.ifCond .ne 9, 3) := by decide +kernel
theorem dX5_check_27 : decode cX5_check 27 = .ok (.aload_n 0, 1) := by decide +kernel
theorem dX5_check_28 : decode cX5_check 28 = .ok (.iconst 2, 1) := by decide +kernel
theorem dX5_check_29 : decode cX5_check 29 = .ok (.invokevirtual 104, 3) := by decide +kernel
theorem dX5_check_32 : decode cX5_check 32 = .ok (.ireturn, 1) := by decide +kernel
theorem dX5_check_33 : decode cX5_check 33 = .ok (.aload_n 0, 1) := by decide +kernel
theorem dX5_check_34 : decode cX5_check 34 = .ok (.getfield 35, 3) := by decide +kernel
theorem dX5_check_37 : decode cX5_check 37 = .ok (.iconst 0, 1) := by decide +kernel
theorem dX5_check_38 : decode cX5_check 38 = .ok (.iaload, 1) := by decide +kernel
theorem dX5_check_39 : decode cX5_check 39 = .ok (.istore 4, 2) := by decide +kernel
theorem dX5_check_41 : decode cX5_check 41 = .ok (.iload_n 2, 1) := by decide +kernel
theorem dX5_check_42 : decode cX5_check 42 = .ok (.ifCond .eq 7, 3) := by decide +kernel
theorem dX5_check_45 : decode cX5_check 45 = .ok (.iload_n 3, 1) := by decide +kernel
theorem dX5_check_46 : decode cX5_check 46 = .ok (.goto 7, 3) := by decide +kernel
theorem dX5_check_49 : decode cX5_check 49 = .ok (.iload 4, 2) := by decide +kernel
theorem dX5_check_51 : decode cX5_check 51 = .ok (.iconst 4, 1) := by decide +kernel
theorem dX5_check_52 : decode cX5_check 52 = .ok (.iadd, 1) := by decide +kernel
theorem dX5_check_53 : decode cX5_check 53 = .ok (.istore 5, 2) := by decide +kernel
theorem dX5_check_55 : decode cX5_check 55 = .ok (.aload_n 0, 1) := by decide +kernel
theorem dX5_check_56 : decode cX5_check 56 = .ok (.getfield 38, 3) := by decide +kernel
theorem dX5_check_59 : decode cX5_check 59 = .ok (.iconst 0, 1) := by decide +kernel
theorem dX5_check_60 : decode cX5_check 60 = .ok (.iaload, 1) := by decide +kernel
theorem dX5_check_61 : decode cX5_check 61 = .ok (.iload 5, 2) := by decide +kernel
theorem dX5_check_63 : decode cX5_check 63 = .ok (.if_icmp .ne 7, 3) := by decide +kernel
theorem dX5_check_66 : decode cX5_check 66 = .ok (.iconst 0, 1) := by decide +kernel
theorem dX5_check_67 : decode cX5_check 67 = .ok (.goto 11, 3) := by decide +kernel
theorem dX5_check_70 : decode cX5_check 70 = .ok (.aload_n 0, 1) := by decide +kernel
theorem dX5_check_71 : decode cX5_check 71 = .ok (.iload 4, 2) := by decide +kernel
theorem dX5_check_73 : decode cX5_check 73 = .ok (.iload_n 1, 1) := by decide +kernel
theorem dX5_check_74 : decode cX5_check 74 = .ok (.iload_n 2, 1) := by decide +kernel
theorem dX5_check_75 : decode cX5_check 75 = .ok (.invokevirtual 125, 3) := by decide +kernel
theorem dX5_check_78 : decode cX5_check 78 = .ok (.istore 6, 2) := by decide +kernel
theorem dX5_check_80 : decode cX5_check 80 = .ok (.aload_n 0, 1) := by decide +kernel
theorem dX5_check_81 : decode cX5_check 81 = .ok (.getfield 47, 3) := by decide +kernel
theorem dX5_check_84 : decode cX5_check 84 = .ok (.iconst 0, 1) := by decide +kernel
theorem dX5_check_85 : decode cX5_check 85 = .ok (.dup2, 1) := by decide +kernel
theorem dX5_check_86 : decode cX5_check 86 = .ok (.iaload, 1) := by decide +kernel
theorem dX5_check_87 : decode cX5_check 87 = .ok (.iconst 1, 1) := by decide +kernel
theorem dX5_check_88 : decode cX5_check 88 = .ok (.iadd, 1) := by decide +kernel
theorem dX5_check_89 : decode cX5_check 89 = .ok (.iastore, 1) := by decide +kernel
theorem dX5_check_90 : decode cX5_check 90 = .ok (.aload_n 0, 1) := by decide +kernel
theorem dX5_check_91 : decode cX5_check 91 = .ok (.getfield 47, 3) := by decide +kernel
theorem dX5_check_94 : decode cX5_check 94 = .ok (.iconst 1, 1) := by decide +kernel
theorem dX5_check_95 : decode cX5_check 95 = .ok (.iload 6, 2) := by decide +kernel
theorem dX5_check_97 : decode cX5_check 97 = .ok (.iadd, 1) := by decide +kernel
theorem dX5_check_98 : decode cX5_check 98 = .ok (.dup2, 1) := by decide +kernel
theorem dX5_check_99 : decode cX5_check 99 = .ok (.iaload, 1) := by decide +kernel
theorem dX5_check_100 : decode cX5_check 100 = .ok (.iconst 1, 1) := by decide +kernel
theorem dX5_check_101 : decode cX5_check 101 = .ok (.iadd, 1) := by decide +kernel
theorem dX5_check_102 : decode cX5_check 102 = .ok (.iastore, 1) := by decide +kernel
theorem dX5_check_103 : decode cX5_check 103 = .ok (.iload 6, 2) := by decide +kernel
theorem dX5_check_105 : decode cX5_check 105 = .ok (.ifCond .ne 10, 3) := by decide +kernel
theorem dX5_check_108 : decode cX5_check 108 = .ok (.aload_n 0, 1) := by decide +kernel
theorem dX5_check_109 : decode cX5_check 109 = .ok (.invokevirtual 129, 3) := by decide +kernel
theorem dX5_check_112 : decode cX5_check 112 = .ok (.goto 58, 3) := by decide +kernel
theorem dX5_check_115 : decode cX5_check 115 = .ok (.aload_n 0, 1) := by decide +kernel
theorem dX5_check_116 : decode cX5_check 116 = .ok (.dup, 1) := by decide +kernel
theorem dX5_check_117 : decode cX5_check 117 = .ok (.getfield 132, 3) := by decide +kernel
theorem dX5_check_120 : decode cX5_check 120 = .ok (.aload_n 0, 1) := by decide +kernel
theorem dX5_check_121 : decode cX5_check 121 = .ok (.getfield 101, 3) := by decide +kernel
theorem dX5_check_124 : decode cX5_check 124 = .ok (.iconst 1, 1) := by decide +kernel
theorem dX5_check_125 : decode cX5_check 125 = .ok (.isub, 1) := by decide +kernel
theorem dX5_check_126 : decode cX5_check 126 = .ok (.iadd, 1) := by decide +kernel
theorem dX5_check_127 : decode cX5_check 127 = .ok (.putfield 132, 3) := by decide +kernel
theorem dX5_check_130 : decode cX5_check 130 = .ok (.aload_n 0, 1) := by decide +kernel
theorem dX5_check_131 : decode cX5_check 131 = .ok (.iconst 0, 1) := by decide +kernel
theorem dX5_check_132 : decode cX5_check 132 = .ok (.putfield 101, 3) := by decide +kernel
theorem dX5_check_135 : decode cX5_check 135 = .ok (.aload_n 0, 1) := by decide +kernel
theorem dX5_check_136 : decode cX5_check 136 = .ok (.iconst 0, 1) := by decide +kernel
theorem dX5_check_137 : decode cX5_check 137 = .ok (.invokevirtual 135, 3) := by decide +kernel
theorem dX5_check_140 : decode cX5_check 140 = .ok (.iload_n 2, 1) := by decide +kernel
theorem dX5_check_141 : decode cX5_check 141 = .ok (.ifCond .eq 16, 3) := by decide +kernel
theorem dX5_check_144 : decode cX5_check 144 = .ok (.iload_n 1, 1) := by decide +kernel
theorem dX5_check_145 : decode cX5_check 145 = .ok (.iconst 1, 1) := by decide +kernel
theorem dX5_check_146 : decode cX5_check 146 = .ok (.if_icmp .ne 11, 3) := by decide +kernel
theorem dX5_check_149 : decode cX5_check 149 = .ok (.aload_n 0, 1) := by decide +kernel
theorem dX5_check_150 : decode cX5_check 150 = .ok (.iload 4, 2) := by decide +kernel
theorem dX5_check_152 : decode cX5_check 152 = .ok (.iconst 4, 1) := by decide +kernel
theorem dX5_check_153 : decode cX5_check 153 = .ok (.iadd, 1) := by decide +kernel
theorem dX5_check_154 : decode cX5_check 154 = .ok (.invokevirtual 107, 3) := by decide +kernel
theorem dX5_check_157 : decode cX5_check 157 = .ok (.iload_n 2, 1) := by decide +kernel
theorem dX5_check_158 : decode cX5_check 158 = .ok (.ifCond .eq 12, 3) := by decide +kernel
theorem dX5_check_161 : decode cX5_check 161 = .ok (.iload_n 1, 1) := by decide +kernel
theorem dX5_check_162 : decode cX5_check 162 = .ok (.iconst 2, 1) := by decide +kernel
theorem dX5_check_163 : decode cX5_check 163 = .ok (.if_icmp .ne 7, 3) := by decide +kernel
theorem dX5_check_166 : decode cX5_check 166 = .ok (.aload_n 0, 1) := by decide +kernel
theorem dX5_check_167 : decode cX5_check 167 = .ok (.invokevirtual 111, 3) := by decide +kernel
theorem dX5_check_170 : decode cX5_check 170 = .ok (.iload_n 2, 1) := by decide +kernel
theorem dX5_check_171 : decode cX5_check 171 = .ok (.ifCond .eq 12, 3) := by decide +kernel
theorem dX5_check_174 : decode cX5_check 174 = .ok (.aload_n 0, 1) := by decide +kernel
theorem dX5_check_175 : decode cX5_check 175 = .ok (.iload 4, 2) := by decide +kernel
theorem dX5_check_177 : decode cX5_check 177 = .ok (.iload_n 1, 1) := by decide +kernel
theorem dX5_check_178 : decode cX5_check 178 = .ok (.iload 5, 2) := by decide +kernel
theorem dX5_check_180 : decode cX5_check 180 = .ok (.invokevirtual 138, 3) := by decide +kernel
theorem dX5_check_183 : decode cX5_check 183 = .ok (.iload 6, 2) := by decide +kernel
theorem dX5_check_185 : decode cX5_check 185 = .ok (.ireturn, 1) := by decide +kernel
theorem dX5_within_0 : decode cX5_within 0 = .ok (.iload_n 0, 1) := by decide +kernel
theorem dX5_within_1 : decode cX5_within 1 = .ok (.iload_n 1, 1) := by decide +kernel
theorem dX5_within_2 : decode cX5_within 2 = .ok (.if_icmp .lt 12, 3) := by decide +kernel
theorem dX5_within_5 : decode cX5_within 5 = .ok (.iload_n 0, 1) := by decide +kernel
theorem dX5_within_6 : decode cX5_within 6 = .ok (.iload_n 2, 1) := by decide +kernel
theorem dX5_within_7 : decode cX5_within 7 = .ok (.if_icmp .gt 7, 3) := by decide +kernel
theorem dX5_within_10 : decode cX5_within 10 = .ok (.iconst 1, 1) := by decide +kernel
theorem dX5_within_11 : decode cX5_within 11 = .ok (.goto 4, 3) := by decide +kernel
theorem dX5_within_14 : decode cX5_within 14 = .ok (.iconst 0, 1) := by decide +kernel
theorem dX5_within_15 : decode cX5_within 15 = .ok (.ireturn, 1) := by decide +kernel
theorem dX5_causeOf_0 : decode cX5_causeOf 0 = .ok (.aload_n 0, 1) := by decide +kernel
theorem dX5_causeOf_1 : decode cX5_causeOf 1 = .ok (.iload_n 1, 1) := by decide +kernel
theorem dX5_causeOf_2 : decode cX5_causeOf 2 = .ok (.invokevirtual 89, 3) := by decide +kernel
theorem dX5_causeOf_5 : decode cX5_causeOf 5 = .ok (.istore 4, 2) := by decide +kernel
theorem dX5_causeOf_7 : decode cX5_causeOf 7 = .ok (.iload 4, 2) := by decide +kernel
theorem dX5_causeOf_9 : decode cX5_causeOf 9 = .ok (.ifCond .ge 9, 3) := by decide +kernel
theorem dX5_causeOf_12 : decode cX5_causeOf 12 = .ok (.iload_n 3, 1) := by decide +kernel
theorem dX5_causeOf_13 : decode cX5_causeOf 13 = .ok (.ifCond .eq 5, 3) := by decide +kernel
theorem dX5_causeOf_16 : decode cX5_causeOf 16 = .ok (.iconst 1, 1) := by decide +kernel
theorem dX5_causeOf_17 : decode cX5_causeOf 17 = .ok (.ireturn, 1) := by decide +kernel
theorem dX5_causeOf_18 : decode cX5_causeOf 18 = .ok (.iload 4, 2) := by decide +kernel
theorem dX5_causeOf_20 : decode cX5_causeOf 20 = .ok (.ifCond .lt 16, 3) := by decide +kernel
theorem dX5_causeOf_23 : decode cX5_causeOf 23 = .ok (.aload_n 0, 1) := by decide +kernel
theorem dX5_causeOf_24 : decode cX5_causeOf 24 = .ok (.getfield 17, 3) := by decide +kernel
theorem dX5_causeOf_27 : decode cX5_causeOf 27 = .ok (.iload 4, 2) := by decide +kernel
theorem dX5_causeOf_29 : decode cX5_causeOf 29 = .ok (.iaload, 1) := by decide +kernel
theorem dX5_causeOf_30 : decode cX5_causeOf 30 = .ok (.iload_n 2, 1) := by decide +kernel
theorem dX5_causeOf_31 : decode cX5_causeOf 31 = .ok (.if_icmp .eq 5, 3) := by decide +kernel
theorem dX5_causeOf_34 : decode cX5_causeOf 34 = .ok (.iconst 2, 1) := by decide +kernel
theorem dX5_causeOf_35 : decode cX5_causeOf 35 = .ok (.ireturn, 1) := by decide +kernel
theorem dX5_causeOf_36 : decode cX5_causeOf 36 = .ok (.iload_n 2, 1) := by decide +kernel
theorem dX5_causeOf_37 : decode cX5_causeOf 37 = .ok (.iconst 2, 1) := by decide +kernel
theorem dX5_causeOf_38 : decode cX5_causeOf 38 = .ok (.if_icmp .ne 5, 3) := by decide +kernel
theorem dX5_causeOf_41 : decode cX5_causeOf 41 = .ok (.iconst 3, 1) := by decide +kernel
theorem dX5_causeOf_42 : decode cX5_causeOf 42 = .ok (.ireturn, 1) := by decide +kernel
theorem dX5_causeOf_43 : decode cX5_causeOf 43 = .ok (.iload_n 2, 1) := by decide +kernel
theorem dX5_causeOf_44 : decode cX5_causeOf 44 = .ok (.iconst 3, 1) := by decide +kernel
theorem dX5_causeOf_45 : decode cX5_causeOf 45 = .ok (.if_icmp .ne 5, 3) := by decide +kernel
theorem dX5_causeOf_48 : decode cX5_causeOf 48 = .ok (.iconst 4, 1) := by decide +kernel
theorem dX5_causeOf_49 : decode cX5_causeOf 49 = .ok (.ireturn, 1) := by decide +kernel
theorem dX5_causeOf_50 : decode cX5_causeOf 50 = .ok (.iload_n 3, 1) := by decide +kernel
theorem dX5_causeOf_51 : decode cX5_causeOf 51 = .ok (.ifCond .eq 8, 3) := by decide +kernel
theorem dX5_causeOf_54 : decode cX5_causeOf 54 = .ok (.bipush 6, 2) := by decide +kernel
theorem dX5_causeOf_56 : decode cX5_causeOf 56 = .ok (.goto 4, 3) := by decide +kernel
theorem dX5_causeOf_59 : decode cX5_causeOf 59 = .ok (.iconst 5, 1) := by decide +kernel
theorem dX5_causeOf_60 : decode cX5_causeOf 60 = .ok (.ireturn, 1) := by decide +kernel
theorem dX5_dropFirst_0 : decode cX5_dropFirst 0 = .ok (.aload_n 0, 1) := by decide +kernel
theorem dX5_dropFirst_1 : decode cX5_dropFirst 1 = .ok (.dup, 1) := by decide +kernel

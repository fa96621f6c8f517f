theorem dX4_count_145 : decode cX4_count 145 = .ok (.getfield 149, 3) := by decide +kernel
theorem dX4_count_148 : decode cX4_count 148 = .ok (.ireturn, 1) := by decide +kernel
theorem dX4_count_149 : decode cX4_count 149 = .ok (.aload_n 0, 1) := by decide +kernel
theorem dX4_count_150 : decode cX4_count 150 = .ok (.getfield 18, 3) := by decide +kernel
theorem dX4_count_153 : decode cX4_count 153 = .ok (.getfield 168, 3) := by decide +kernel
theorem dX4_count_156 : decode cX4_count 156 = .ok (.ireturn, 1) := by decide +kernel
theorem dX4_count_157 : decode cX4_count 157 = .ok (.aload_n 0, 1) := by decide +kernel
theorem dX4_count_158 : decode cX4_count 158 = .ok (.getfield 27, 3) := by decide +kernel
theorem dX4_count_161 : decode cX4_count 161 = .ok (.getfield 171, 3) := by decide +kernel
theorem dX4_count_164 : decode cX4_count 164 = .ok (.ireturn, 1) := by decide +kernel
theorem dX4_count_165 : decode cX4_count 165 = .ok (.aload_n 0, 1) := by decide +kernel
theorem dX4_count_166 : decode cX4_count 166 = .ok (.getfield 123, 3) := by decide +kernel
theorem dX4_count_169 : decode cX4_count 169 = .ok (.ireturn, 1) := by decide +kernel
theorem dX4_count_170 : decode cX4_count 170 = .ok (.aload_n 0, 1) := by decide +kernel
theorem dX4_count_171 : decode cX4_count 171 = .ok (.getfield 18, 3) := by decide +kernel
theorem dX4_count_174 : decode cX4_count 174 = .ok (.getfield 126, 3) := by decide +kernel
theorem dX4_count_177 : decode cX4_count 177 = .ok (.ireturn, 1) := by decide +kernel
theorem dX4_count_178 : decode cX4_count 178 = .ok (.aload_n 0, 1) := by decide +kernel
theorem dX4_count_179 : decode cX4_count 179 = .ok (.getfield 18, 3) := by decide +kernel
theorem dX4_count_182 : decode cX4_count 182 = .ok (.getfield 129, 3) := by decide +kernel
theorem dX4_count_185 : decode cX4_count 185 = .ok (.ireturn, 1) := by decide +kernel
theorem dX4_count_186 : decode cX4_count 186 = .ok (.aload_n 0, 1) := by decide +kernel
theorem dX4_count_187 : decode cX4_count 187 = .ok (.getfield 36, 3) := by decide +kernel
theorem dX4_count_190 : decode cX4_count 190 = .ok (.getfield 159, 3) := by decide +kernel
theorem dX4_count_193 : decode cX4_count 193 = .ok (.ireturn, 1) := by decide +kernel
theorem dX4_count_194 : decode cX4_count 194 = .ok (.iconst (-1), 1) := by decide +kernel
theorem dX4_count_195 : decode cX4_count 195 = .ok (.ireturn, 1) := by decide +kernel
theorem dL_cell_0 : decode cL_cell 0 = .ok (.iload_n 1, 1) := by decide +kernel
theorem dL_cell_1 : decode cL_cell 1 = .ok (.aload_n 0, 1) := by decide +kernel
theorem dL_cell_2 : decode cL_cell 2 = .ok (.arraylength, 1) := by decide +kernel
theorem dL_cell_3 : decode cL_cell 3 = .ok (.if_icmp .ge 9, 3) := by decide +kernel
theorem dL_cell_6 : decode cL_cell 6 = .ok (.aload_n 0, 1) := by decide +kernel
theorem dL_cell_7 : decode cL_cell 7 = .ok (.iload_n 1, 1) := by decide +kernel
theorem dL_cell_8 : decode cL_cell 8 = .ok (.iaload, 1) := by decide +kernel
theorem dL_cell_9 : decode cL_cell 9 = .ok (.goto 4, 3) := by decide +kernel
theorem dL_cell_12 : decode cL_cell 12 = .ok (.iconst 0, 1) := by decide +kernel
theorem dL_cell_13 : decode cL_cell 13 = .ok (.ireturn, 1) := by decide +kernel
theorem dL_next_0 : decode cL_next 0 = .ok (.aload_n 2, 1) := by decide +kernel
theorem dL_next_1 : decode cL_next 1 = .ok (.iconst 0, 1) := by decide +kernel
theorem dL_next_2 : decode cL_next 2 = .ok (.aload_n 0, 1) := by decide +kernel
theorem dL_next_3 : decode cL_next 3 = .ok (.iload_n 1, 1) := by decide +kernel
theorem dL_next_4 : decode cL_next 4 = .ok (.invokevirtual 7, 3) := by decide +kernel
theorem dL_next_7 : decode cL_next 7 = .ok (.i2l, 1) := by decide +kernel
theorem dL_next_8 : decode cL_next 8 = .ok (.lastore, 1) := by decide +kernel
theorem dL_next_9 : decode cL_next 9 = .ok (.goto 6, 3) := by decide +kernel
theorem dL_next_12 : decode cL_next 12 = .ok (.astore_n 3, 1) := by decide +kernel
theorem dL_next_13 : decode cL_next 13 = .ok (.iconst 1, 1) := by decide +kernel
theorem dL_next_14 : decode cL_next 14 = .ok (.ireturn, 1) := by decide +kernel
theorem dL_next_15 : decode cL_next 15 = .ok (.iconst 0, 1) := by decide +kernel
theorem dL_next_16 : decode cL_next 16 = .ok (.ireturn, 1) := by decide +kernel
theorem dX4_next_0 : decode cX4_next 0 = .ok (.aload_n 0, 1) := by decide +kernel
theorem dX4_next_1 : decode cX4_next 1 = .ok (.getfield 43, 3) := by decide +kernel
theorem dX4_next_4 : decode cX4_next 4 = .ok (.getfield 58, 3) := by decide +kernel
theorem dX4_next_7 : decode cX4_next 7 = .ok (.bipush 16, 2) := by decide +kernel
theorem dX4_next_9 : decode cX4_next 9 = .ok (.if_icmp .ne 13, 3) := by decide +kernel
theorem dX4_next_12 : decode cX4_next 12 = .ok (.new 62, 3) := by decide +kernel
theorem dX4_next_15 : decode cX4_next 15 = .ok (.dup, 1) := by decide +kernel
theorem dX4_next_16 : decode cX4_next 16 = .ok (.ldc 64, 2) := by decide +kernel
theorem dX4_next_18 : decode cX4_next 18 = .ok (.invokespecial 66, 3) := by decide +kernel
theorem dX4_next_21 : decode cX4_next 21 = .ok (.athrow, 1) := by decide +kernel
theorem dX4_next_22 : decode cX4_next 22 = .ok (.aload_n 0, 1) := by decide +kernel
theorem dX4_next_23 : decode cX4_next 23 = .ok (.getfield 18, 3) := by decide +kernel
theorem dX4_next_26 : decode cX4_next 26 = .ok (.iload_n 1, 1) := by decide +kernel
theorem dX4_next_27 : decode cX4_next 27 = .ok (.invokevirtual 51, 3) := by decide +kernel
theorem dX4_next_30 : decode cX4_next 30 = .ok (.istore_n 2, 1) := by decide +kernel
theorem dX4_next_31 : decode cX4_next 31 = .ok (.aload_n 0, 1) := by decide +kernel
theorem dX4_next_32 : decode cX4_next 32 = .ok (.iload_n 1, 1) := by decide +kernel
theorem dX4_next_33 : decode cX4_next 33 = .ok (.iload_n 2, 1) := by decide +kernel
theorem dX4_next_34 : decode cX4_next 34 = .ok (.invokevirtual 55, 3) := by decide +kernel
theorem dX4_next_37 : decode cX4_next 37 = .ok (.istore_n 3, 1) := by decide +kernel
theorem dX4_next_38 : decode cX4_next 38 = .ok (.aload_n 0, 1) := by decide +kernel
theorem dX4_next_39 : decode cX4_next 39 = .ok (.getfield 43, 3) := by decide +kernel
theorem dX4_next_42 : decode cX4_next 42 = .ok (.iload_n 1, 1) := by decide +kernel
theorem dX4_next_43 : decode cX4_next 43 = .ok (.iload_n 3, 1) := by decide +kernel
theorem dX4_next_44 : decode cX4_next 44 = .ok (.aload_n 0, 1) := by decide +kernel
theorem dX4_next_45 : decode cX4_next 45 = .ok (.getfield 36, 3) := by decide +kernel
theorem dX4_next_48 : decode cX4_next 48 = .ok (.invokevirtual 69, 3) := by decide +kernel
theorem dX4_next_51 : decode cX4_next 51 = .ok (.iload_n 2, 1) := by decide +kernel
theorem dX4_next_52 : decode cX4_next 52 = .ok (.iconst (-1), 1) := by decide +kernel
theorem dX4_next_53 : decode cX4_next 53 = .ok (.if_icmp .eq 17, 3) := by decide +kernel
theorem dX4_next_56 : decode cX4_next 56 = .ok (.aload_n 0, 1) := by decide +kernel
theorem dX4_next_57 : decode cX4_next 57 = .ok (.aload_n 0, 1) := by decide +kernel
theorem dX4_next_58 : decode cX4_next 58 = .ok (.getfield 18, 3) := by decide +kernel
theorem dX4_next_61 : decode cX4_next 61 = .ok (.getfield 73, 3) := by decide +kernel
theorem dX4_next_64 : decode cX4_next 64 = .ok (.iload_n 2, 1) := by decide +kernel
theorem dX4_next_65 : decode cX4_next 65 = .ok (.iaload, 1) := by decide +kernel
theorem dX4_next_66 : decode cX4_next 66 = .ok (.iload_n 1, 1) := by decide +kernel
theorem dX4_next_67 : decode cX4_next 67 = .ok (.invokevirtual 76, 3) := by decide +kernel
theorem dX4_next_70 : decode cX4_next 70 = .ok (.iload_n 3, 1) := by decide +kernel
theorem dX4_next_71 : decode cX4_next 71 = .ok (.ireturn, 1) := by decide +kernel
theorem dX1_add_0 : decode cX1_add 0 = .ok (.aload_n 0, 1) := by decide +kernel
theorem dX1_add_1 : decode cX1_add 1 = .ok (.aload_n 0, 1) := by decide +kernel
theorem dX1_add_2 : decode cX1_add 2 = .ok (.getfield 28, 3) := by decide +kernel
theorem dX1_add_5 : decode cX1_add 5 = .ok (.invokevirtual 31, 3) := by decide +kernel
theorem dX1_add_8 : decode cX1_add 8 = .ok (.istore 4, 2) := by decide +kernel
theorem dX1_add_10 : decode cX1_add 10 = .ok (.aload_n 0, 1) := by decide +kernel
theorem dX1_add_11 : decode cX1_add 11 = .ok (.getfield 15, 3) := by decide +kernel
theorem dX1_add_14 : decode cX1_add 14 = .ok (.iload 4, 2) := by decide +kernel
theorem dX1_add_16 : decode cX1_add 16 = .ok (.iload_n 1, 1) := by decide +kernel
theorem dX1_add_17 : decode cX1_add 17 = .ok (.iastore, 1) := by decide +kernel
theorem dX1_add_18 : decode cX1_add 18 = .ok (.aload_n 0, 1) := by decide +kernel
theorem dX1_add_19 : decode cX1_add 19 = .ok (.getfield 19, 3) := by decide +kernel
theorem dX1_add_22 : decode cX1_add 22 = .ok (.iload 4, 2) := by decide +kernel
theorem dX1_add_24 : decode cX1_add 24 = .ok (.iload_n 2, 1) := by decide +kernel
theorem dX1_add_25 : decode cX1_add 25 = .ok (.iastore, 1) := by decide +kernel
theorem dX1_add_26 : decode cX1_add 26 = .ok (.aload_n 0, 1) := by decide +kernel
theorem dX1_add_27 : decode cX1_add 27 = .ok (.getfield 22, 3) := by decide +kernel
theorem dX1_add_30 : decode cX1_add 30 = .ok (.iload 4, 2) := by decide +kernel
theorem dX1_add_32 : decode cX1_add 32 = .ok (.aload_n 3, 1) := by decide +kernel
theorem dX1_add_33 : decode cX1_add 33 = .ok (.getfield 35, 3) := by decide +kernel
theorem dX1_add_36 : decode cX1_add 36 = .ok (.iastore, 1) := by decide +kernel
theorem dX1_add_37 : decode cX1_add 37 = .ok (.aload_n 3, 1) := by decide +kernel
theorem dX1_add_38 : decode cX1_add 38 = .ok (.aload_n 0, 1) := by decide +kernel
theorem dX1_add_39 : decode cX1_add 39 = .ok (.getfield 25, 3) := by decide +kernel
theorem dX1_add_42 : decode cX1_add 42 = .ok (.iload 4, 2) := by decide +kernel
theorem dX1_add_44 : decode cX1_add 44 = .ok (.aload_n 0, 1) := by decide +kernel
theorem dX1_add_45 : decode cX1_add 45 = .ok (.getfield 9, 3) := by decide +kernel
theorem dX1_add_48 : decode cX1_add 48 = .ok (.imul, 1) := by decide +kernel
theorem dX1_add_49 : decode cX1_add 49 = .ok (.invokevirtual 40, 3) := by decide +kernel
theorem dX1_add_52 : decode cX1_add 52 = .ok (.aload_n 0, 1) := by decide +kernel
theorem dX1_add_53 : decode cX1_add 53 = .ok (.dup, 1) := by decide +kernel
theorem dX1_add_54 : decode cX1_add 54 = .ok (.getfield 28, 3) := by decide +kernel
theorem dX1_add_57 : decode cX1_add 57 = .ok (.iconst 1, 1) := by decide +kernel
theorem dX1_add_58 : decode cX1_add 58 = .ok (.iadd, 1) := by decide +kernel
theorem dX1_add_59 : decode cX1_add 59 = .ok (.putfield 28, 3) := by decide +kernel
theorem dX1_add_62 : decode cX1_add 62 = .ok (.return_, 1) := by decide +kernel
theorem dX1_indexOf_0 : decode cX1_indexOf 0 = .ok (.aload_n 0, 1) := by decide +kernel
theorem dX1_indexOf_1 : decode cX1_indexOf 1 = .ok (.getfield 44, 3) := by decide +kernel
theorem dX1_indexOf_4 : decode cX1_indexOf 4 = .ok (.iload_n 1, 1) := by decide +kernel
theorem dX1_indexOf_5 : decode cX1_indexOf 5 = .ok (.iadd, 1) := by decide +kernel
theorem dX1_indexOf_6 : decode cX1_indexOf 6 = .ok (.bipush 15, 2) := by decide +kernel
theorem dX1_indexOf_8 : decode cX1_indexOf 8 = .ok (.iand, 1) := by decide +kernel
theorem dX1_indexOf_9 : decode cX1_indexOf 9 = .ok (.ireturn, 1) := by decide +kernel
theorem dX2_copyTo_0 : decode cX2_copyTo 0 = .ok (.aload_n 0, 1) := by decide +kernel
theorem dX2_copyTo_1 : decode cX2_copyTo 1 = .ok (.getfield 13, 3) := by decide +kernel
theorem dX2_copyTo_4 : decode cX2_copyTo 4 = .ok (.iconst 0, 1) := by decide +kernel
theorem dX2_copyTo_5 : decode cX2_copyTo 5 = .ok (.aload_n 1, 1) := by decide +kernel
theorem dX2_copyTo_6 : decode cX2_copyTo 6 = .ok (.iload_n 2, 1) := by decide +kernel
theorem dX2_copyTo_7 : decode cX2_copyTo 7 = .ok (.aload_n 0, 1) := by decide +kernel
theorem dX2_copyTo_8 : decode cX2_copyTo 8 = .ok (.getfield 17, 3) := by decide +kernel
theorem dX2_copyTo_11 : decode cX2_copyTo 11 = .ok (.invokestatic 29, 3) := by decide +kernel
theorem dX2_copyTo_14 : decode cX2_copyTo 14 = .ok (.return_, 1) := by decide +kernel
theorem dX4_moveStack_0 : decode cX4_moveStack 0 = .ok (.iload_n 1, 1) := by decide +kernel
theorem dX4_moveStack_1 : decode cX4_moveStack 1 = .ok (.iconst 1, 1) := by decide +kernel
theorem dX4_moveStack_2 : decode cX4_moveStack 2 = .ok (.if_icmp .ne 17, 3) := by decide +kernel
theorem dX4_moveStack_5 : decode cX4_moveStack 5 = .ok (.aload_n 0, 1) := by decide +kernel
theorem dX4_moveStack_6 : decode cX4_moveStack 6 = .ok (.getfield 36, 3) := by decide +kernel
theorem dX4_moveStack_9 : decode cX4_moveStack 9 = .ok (.iload_n 2, 1) := by decide +kernel
theorem dX4_moveStack_10 : decode cX4_moveStack 10 = .ok (.invokestatic 92, 3) := by decide +kernel
theorem dX4_moveStack_13 : decode cX4_moveStack 13 = .ok (.invokevirtual 181, 3) := by decide +kernel
theorem dX4_moveStack_16 : decode cX4_moveStack 16 = .ok (.goto 15, 3) := by decide +kernel
theorem dX4_moveStack_19 : decode cX4_moveStack 19 = .ok (.iload_n 1, 1) := by decide +kernel
theorem dX4_moveStack_20 : decode cX4_moveStack 20 = .ok (.iconst 2, 1) := by decide +kernel
theorem dX4_moveStack_21 : decode cX4_moveStack 21 = .ok (.if_icmp .ne 10, 3) := by decide +kernel
theorem dX4_moveStack_24 : decode cX4_moveStack 24 = .ok (.aload_n 0, 1) := by decide +kernel
theorem dX4_moveStack_25 : decode cX4_moveStack 25 = .ok (.getfield 36, 3) := by decide +kernel
theorem dX4_moveStack_28 : decode cX4_moveStack 28 = .ok (.invokevirtual 184, 3) := by decide +kernel
theorem dX4_moveStack_31 : decode cX4_moveStack 31 = .ok (.return_, 1) := by decide +kernel
theorem dX2_push_0 : decode cX2_push 0 = .ok (.aload_n 0, 1) := by decide +kernel
theorem dX2_push_1 : decode cX2_push 1 = .ok (.getfield 17, 3) := by decide +kernel
theorem dX2_push_4 : decode cX2_push 4 = .ok (.aload_n 0, 1) := by decide +kernel
theorem dX2_push_5 : decode cX2_push 5 = .ok (.getfield 7, 3) := by decide +kernel
theorem dX2_push_8 : decode cX2_push 8 = .ok (.if_icmp .ne 17, 3) := by decide +kernel
theorem dX2_push_11 : decode cX2_push 11 = .ok (.aload_n 0, 1) := by decide +kernel
theorem dX2_push_12 : decode cX2_push 12 = .ok (.dup, 1) := by decide +kernel
theorem dX2_push_13 : decode cX2_push 13 = .ok (.getfield 20, 3) := by decide +kernel
theorem dX2_push_16 : decode cX2_push 16 = .ok (.iconst 1, 1) := by decide +kernel
theorem dX2_push_17 : decode cX2_push 17 = .ok (.iadd, 1) := by decide +kernel
theorem dX2_push_18 : decode cX2_push 18 = .ok (.putfield 20, 3) := by decide +kernel
theorem dX2_push_21 : decode cX2_push 21 = .ok (.aload_n 0, 1) := by decide +kernel
theorem dX2_push_22 : decode cX2_push 22 = .ok (.invokevirtual 23, 3) := by decide +kernel
theorem dX2_push_25 : decode cX2_push 25 = .ok (.aload_n 0, 1) := by decide +kernel
theorem dX2_push_26 : decode cX2_push 26 = .ok (.getfield 17, 3) := by decide +kernel
theorem dX2_push_29 : decode cX2_push 29 = .ok (.aload_n 0, 1) := by decide +kernel
theorem dX2_push_30 : decode cX2_push 30 = .ok (.getfield 7, 3) := by decide +kernel
theorem dX2_push_33 : decode cX2_push 33 = .ok (.if_icmp .ge 23, 3) := by decide +kernel
theorem dX2_push_36 : decode cX2_push 36 = .ok (.aload_n 0, 1) := by decide +kernel
theorem dX2_push_37 : decode cX2_push 37 = .ok (.getfield 13, 3) := by decide +kernel
theorem dX2_push_40 : decode cX2_push 40 = .ok (.aload_n 0, 1) := by decide +kernel
theorem dX2_push_41 : decode cX2_push 41 = .ok (.getfield 17, 3) := by decide +kernel
theorem dX2_push_44 : decode cX2_push 44 = .ok (.iload_n 1, 1) := by decide +kernel
theorem dX2_push_45 : decode cX2_push 45 = .ok (.iastore, 1) := by decide +kernel
theorem dX2_push_46 : decode cX2_push 46 = .ok (.aload_n 0, 1) := by decide +kernel
theorem dX2_push_47 : decode cX2_push 47 = .ok (.dup, 1) := by decide +kernel
theorem dX2_push_48 : decode cX2_push 48 = .ok (.getfield 17, 3) := by decide +kernel
theorem dX2_push_51 : decode cX2_push 51 = .ok (.iconst 1, 1) := by decide +kernel
theorem dX2_push_52 : decode cX2_push 52 = .ok (.iadd, 1) := by decide +kernel
theorem dX2_push_53 : decode cX2_push 53 = .ok (.putfield 17, 3) := by decide +kernel
theorem dX2_push_56 : decode cX2_push 56 = .ok (.return_, 1) := by decide +kernel
theorem dX2_loseLowest_0 : decode cX2_loseLowest 0 = .ok (.aload_n 0, 1) := by decide +kernel
theorem dX2_loseLowest_1 : decode cX2_loseLowest 1 = .ok (.getfield 17, 3) := by decide +kernel
theorem dX2_loseLowest_4 : decode cX2_loseLowest 4 = .ok (.ifCond .le 30, 3) := by decide +kernel
theorem dX2_loseLowest_7 : decode cX2_loseLowest 7 = .ok (.aload_n 0, 1) := by decide +kernel
theorem dX2_loseLowest_8 : decode cX2_loseLowest 8 = .ok (.dup, 1) := by decide +kernel
theorem dX2_loseLowest_9 : decode cX2_loseLowest 9 = .ok (.getfield 17, 3) := by decide +kernel
theorem dX2_loseLowest_12 : decode cX2_loseLowest 12 = .ok (.iconst 1, 1) := by decide +kernel
theorem dX2_loseLowest_13 : decode cX2_loseLowest 13 = .ok (.isub, 1) := by decide +kernel
theorem dX2_loseLowest_14 : decode cX2_loseLowest 14 = .ok (.putfield 17, 3) := by decide +kernel
theorem dX2_loseLowest_17 : decode cX2_loseLowest 17 = .ok (.aload_n 0, 1) := by decide +kernel
theorem dX2_loseLowest_18 : decode cX2_loseLowest 18 = .ok (.getfield 13, 3) := by decide +kernel
theorem dX2_loseLowest_21 : decode cX2_loseLowest 21 = .ok (.iconst 1, 1) := by decide +kernel
theorem dX2_loseLowest_22 : decode cX2_loseLowest 22 = .ok (.aload_n 0, 1) := by decide +kernel
theorem dX2_loseLowest_23 : decode cX2_loseLowest 23 = .ok (.getfield 13, 3) := by decide +kernel
theorem dX2_loseLowest_26 : decode cX2_loseLowest 26 = .ok (.iconst 0, 1) := by decide +kernel
theorem dX2_loseLowest_27 : decode cX2_loseLowest 27 = .ok (.aload_n 0, 1) := by decide +kernel
theorem dX2_loseLowest_28 : decode cX2_loseLowest 28 = .ok (.getfield 17, 3) := by decide +kernel
theorem dX2_loseLowest_31 : decode cX2_loseLowest 31 = .ok (.invokestatic 29, 3) := by decide +kernel
theorem dX2_loseLowest_34 : decode cX2_loseLowest 34 = .ok (.return_, 1) := by decide +kernel
theorem dX2_pop_0 : decode cX2_pop 0 = .ok (.aload_n 0, 1) := by decide +kernel
theorem dX2_pop_1 : decode cX2_pop 1 = .ok (.getfield 17, 3) := by decide +kernel
theorem dX2_pop_4 : decode cX2_pop 4 = .ok (.ifCond .ne 16, 3) := by decide +kernel
theorem dX2_pop_7 : decode cX2_pop 7 = .ok (.aload_n 0, 1) := by decide +kernel
theorem dX2_pop_8 : decode cX2_pop 8 = .ok (.dup, 1) := by decide +kernel
theorem dX2_pop_9 : decode cX2_pop 9 = .ok (.getfield 26, 3) := by decide +kernel
theorem dX2_pop_12 : decode cX2_pop 12 = .ok (.iconst 1, 1) := by decide +kernel
theorem dX2_pop_13 : decode cX2_pop 13 = .ok (.iadd, 1) := by decide +kernel
theorem dX2_pop_14 : decode cX2_pop 14 = .ok (.putfield 26, 3) := by decide +kernel
theorem dX2_pop_17 : decode cX2_pop 17 = .ok (.goto 13, 3) := by decide +kernel
theorem dX2_pop_20 : decode cX2_pop 20 = .ok (.aload_n 0, 1) := by decide +kernel
theorem dX2_pop_21 : decode cX2_pop 21 = .ok (.dup, 1) := by decide +kernel
theorem dX2_pop_22 : decode cX2_pop 22 = .ok (.getfield 17, 3) := by decide +kernel
theorem dX2_pop_25 : decode cX2_pop 25 = .ok (.iconst 1, 1) := by decide +kernel
theorem dX2_pop_26 : decode cX2_pop 26 = .ok (.isub, 1) := by decide +kernel
theorem dX2_pop_27 : decode cX2_pop 27 = .ok (.putfield 17, 3) := by decide +kernel
theorem dX2_pop_30 : decode cX2_pop 30 = .ok (.return_, 1) := by decide +kernel
theorem dL_check_0 : decode cL_check 0 = .ok (.aload 4, 2) := by decide +kernel
theorem dL_check_2 : decode cL_check 2 = .ok (.iconst 0, 1) := by decide +kernel
theorem dL_check_3 : decode cL_check 3 = .ok (.aload_n 0, 1) := by decide +kernel
theorem dL_check_4 : decode cL_check 4 = .ok (.iload_n 1, 1) := by decide +kernel
theorem dL_check_5 : decode cL_check 5 = .ok (.iload_n 2, 1) := by decide +kernel
theorem dL_check_6 : decode cL_check 6 = .ok (.iload_n 3, 1) := by decide +kernel
theorem dL_check_7 : decode cL_check 7 = .ok (.invokevirtual 15, 3) := by decide +kernel
theorem dL_check_10 : decode cL_check 10 = .ok (.i2l, 1) := by decide +kernel
theorem dL_check_11 : decode cL_check 11 = .ok (.lastore, 1) := by decide +kernel
theorem dL_check_12 : decode cL_check 12 = .ok (.goto 11, 3) := by decide +kernel
theorem dL_check_15 : decode cL_check 15 = .ok (.astore 5, 2) := by decide +kernel
theorem dL_check_17 : decode cL_check 17 = .ok (.iconst 1, 1) := by decide +kernel
theorem dL_check_18 : decode cL_check 18 = .ok (.ireturn, 1) := by decide +kernel
theorem dL_check_19 : decode cL_check 19 = .ok (.astore 5, 2) := by decide +kernel
theorem dL_check_21 : decode cL_check 21 = .ok (.iconst 2, 1) := by decide +kernel
theorem dL_check_22 : decode cL_check 22 = .ok (.ireturn, 1) := by decide +kernel
theorem dL_check_23 : decode cL_check 23 = .ok (.iconst 0, 1) := by decide +kernel
theorem dL_check_24 : decode cL_check 24 = .ok (.ireturn, 1) := by decide +kernel
theorem dX4_check_0 : decode cX4_check 0 = .ok (.iload_n 1, 1) := by decide +kernel
theorem dX4_check_1 : decode cX4_check 1 = .ok (.ifCond .lt 8, 3) := by decide +kernel
theorem dX4_check_4 : decode cX4_check 4 = .ok (.iload_n 1, 1) := by decide +kernel
theorem dX4_check_5 : decode cX4_check 5 = .ok (.iconst 3, 1) := by decide +kernel
theorem dX4_check_6 : decode cX4_check 6 = .ok (.if_icmp .le 13, 3) := by decide +kernel
theorem dX4_check_9 : decode cX4_check 9 = .ok (.new 79, 3) := by decide +kernel
theorem dX4_check_12 : decode cX4_check 12 = .ok (.dup, 1) := by decide +kernel
theorem dX4_check_13 : decode cX4_check 13 = .ok (.ldc 81, 2) := by decide +kernel
theorem dX4_check_15 : decode cX4_check 15 = .ok (.invokespecial 83, 3) := by decide +kernel
theorem dX4_check_18 : decode cX4_check 18 = .ok (.athrow, 1) := by decide +kernel
theorem dX4_check_19 : decode cX4_check 19 = .ok (.aload_n 0, 1) := by decide +kernel
theorem dX4_check_20 : decode cX4_check 20 = .ok (.getfield 43, 3) := by decide +kernel
theorem dX4_check_23 : decode cX4_check 23 = .ok (.getfield 58, 3) := by decide +kernel
theorem dX4_check_26 : decode cX4_check 26 = .ok (.ifCond .ne 13, 3) := by decide +kernel
theorem dX4_check_29 : decode cX4_check 29 = .ok (.new 84, 3) := by decide +kernel
theorem dX4_check_32 : decode cX4_check 32 = .ok (.dup, 1) := by decide +kernel
theorem dX4_check_33 : decode cX4_check 33 = .ok (.ldc 86, 2) := by decide +kernel
theorem dX4_check_35 : decode cX4_check 35 = .ok (.invokespecial 88, 3) := by decide +kernel
theorem dX4_check_38 : decode cX4_check 38 = .ok (.athrow, 1) := by decide +kernel
theorem dX4_check_39 : decode cX4_check 39 = .ok (.aload_n 0, 1) := by decide +kernel
theorem dX4_check_40 : decode cX4_check 40 = .ok (.getfield 43, 3) := by decide +kernel
theorem dX4_check_43 : decode cX4_check 43 = .ok (.iconst 0, 1) := by decide +kernel
theorem dX4_check_44 : decode cX4_check 44 = .ok (.invokevirtual 89, 3) := by decide +kernel
theorem dX4_check_47 : decode cX4_check 47 = .ok (.istore 4, 2) := by decide +kernel
theorem dX4_check_49 : decode cX4_check 49 = .ok (.iload_n 2, 1) := by decide +kernel
theorem dX4_check_50 : decode cX4_check 50 = .ok (.ifCond .eq 7, 3) := by decide +kernel
theorem dX4_check_53 : decode cX4_check 53 = .ok (.iload_n 3, 1) := by decide +kernel
theorem dX4_check_54 : decode cX4_check 54 = .ok (.goto 8, 3) := by decide +kernel
theorem dX4_check_57 : decode cX4_check 57 = .ok (.iload 4, 2) := by decide +kernel
theorem dX4_check_59 : decode cX4_check 59 = .ok (.invokestatic 92, 3) := by decide +kernel
theorem dX4_check_62 : decode cX4_check 62 = .ok (.istore 5, 2) := by decide +kernel
theorem dX4_check_64 : decode cX4_check 64 = .ok (.aload_n 0, 1) := by decide +kernel
theorem dX4_check_65 : decode cX4_check 65 = .ok (.getfield 43, 3) := by decide +kernel
theorem dX4_check_68 : decode cX4_check 68 = .ok (.iconst 0, 1) := by decide +kernel
theorem dX4_check_69 : decode cX4_check 69 = .ok (.invokevirtual 95, 3) := by decide +kernel
theorem dX4_check_72 : decode cX4_check 72 = .ok (.iload 5, 2) := by decide +kernel
theorem dX4_check_74 : decode cX4_check 74 = .ok (.if_icmp .ne 7, 3) := by decide +kernel
theorem dX4_check_77 : decode cX4_check 77 = .ok (.iconst 0, 1) := by decide +kernel
theorem dX4_check_78 : decode cX4_check 78 = .ok (.goto 11, 3) := by decide +kernel
theorem dX4_check_81 : decode cX4_check 81 = .ok (.aload_n 0, 1) := by decide +kernel
theorem dX4_check_82 : decode cX4_check 82 = .ok (.iload 4, 2) := by decide +kernel
theorem dX4_check_84 : decode cX4_check 84 = .ok (.iload_n 1, 1) := by decide +kernel
theorem dX4_check_85 : decode cX4_check 85 = .ok (.iload_n 2, 1) := by decide +kernel
theorem dX4_check_86 : decode cX4_check 86 = .ok (.invokevirtual 98, 3) := by decide +kernel
theorem dX4_check_89 : decode cX4_check 89 = .ok (.istore 6, 2) := by decide +kernel
theorem dX4_check_91 : decode cX4_check 91 = .ok (.iload 6, 2) := by decide +kernel
theorem dX4_check_93 : decode cX4_check 93 = .ok (.ifCond .ne 13, 3) := by decide +kernel
theorem dX4_check_96 : decode cX4_check 96 = .ok (.aload_n 0, 1) := by decide +kernel
theorem dX4_check_97 : decode cX4_check 97 = .ok (.getfield 43, 3) := by decide +kernel
theorem dX4_check_100 : decode cX4_check 100 = .ok (.invokevirtual 102, 3) := by decide +kernel
theorem dX4_check_103 : decode cX4_check 103 = .ok (.goto 11, 3) := by decide +kernel
theorem dX4_check_106 : decode cX4_check 106 = .ok (.aload_n 0, 1) := by decide +kernel
theorem dX4_check_107 : decode cX4_check 107 = .ok (.iload 4, 2) := by decide +kernel
theorem dX4_check_109 : decode cX4_check 109 = .ok (.iload_n 1, 1) := by decide +kernel
theorem dX4_check_110 : decode cX4_check 110 = .ok (.iload_n 2, 1) := by decide +kernel
theorem dX4_check_111 : decode cX4_check 111 = .ok (.invokevirtual 105, 3) := by decide +kernel
theorem dX4_check_114 : decode cX4_check 114 = .ok (.iload_n 2, 1) := by decide +kernel
theorem dX4_check_115 : decode cX4_check 115 = .ok (.ifCond .eq 11, 3) := by decide +kernel
theorem dX4_check_118 : decode cX4_check 118 = .ok (.aload_n 0, 1) := by decide +kernel
theorem dX4_check_119 : decode cX4_check 119 = .ok (.iload 4, 2) := by decide +kernel
theorem dX4_check_121 : decode cX4_check 121 = .ok (.iload_n 1, 1) := by decide +kernel
theorem dX4_check_122 : decode cX4_check 122 = .ok (.iload_n 3, 1) := by decide +kernel
theorem dX4_check_123 : decode cX4_check 123 = .ok (.invokevirtual 109, 3) := by decide +kernel
theorem dX4_check_126 : decode cX4_check 126 = .ok (.aload_n 0, 1) := by decide +kernel
theorem dX4_check_127 : decode cX4_check 127 = .ok (.dup, 1) := by decide +kernel
theorem dX4_check_128 : decode cX4_check 128 = .ok (.getfield 113, 3) := by decide +kernel
theorem dX4_check_131 : decode cX4_check 131 = .ok (.iconst 1, 1) := by decide +kernel
theorem dX4_check_132 : decode cX4_check 132 = .ok (.iadd, 1) := by decide +kernel
theorem dX4_check_133 : decode cX4_check 133 = .ok (.putfield 113, 3) := by decide +kernel
theorem dX4_check_136 : decode cX4_check 136 = .ok (.aload_n 0, 1) := by decide +kernel
theorem dX4_check_137 : decode cX4_check 137 = .ok (.getfield 47, 3) := by decide +kernel
theorem dX4_check_140 : decode cX4_check 140 = .ok (.iload 6, 2) := by decide +kernel
theorem dX4_check_142 : decode cX4_check 142 = .ok (.dup2, 1) := by decide +kernel
theorem dX4_check_143 : decode cX4_check 143 = .ok (.iaload, 1) := by decide +kernel
theorem dX4_check_144 : decode cX4_check 144 = .ok (.iconst 1, 1) := by decide +kernel
theorem dX4_check_145 : decode cX4_check 145 = .ok (.iadd, 1) := by decide +kernel
theorem dX4_check_146 : decode cX4_check 146 = .ok (.iastore, 1) := by decide +kernel
theorem dX4_check_147 : decode cX4_check 147 = .ok (.iload 6, 2) := by decide +kernel
theorem dX4_check_149 : decode cX4_check 149 = .ok (.ireturn, 1) := by decide +kernel
theorem dX1_placeAt_0 : decode cX1_placeAt 0 = .ok (.aload_n 0, 1) := by decide +kernel
theorem dX1_placeAt_1 : decode cX1_placeAt 1 = .ok (.getfield 15, 3) := by decide +kernel
theorem dX1_placeAt_4 : decode cX1_placeAt 4 = .ok (.aload_n 0, 1) := by decide +kernel
theorem dX1_placeAt_5 : decode cX1_placeAt 5 = .ok (.iload_n 1, 1) := by decide +kernel
theorem dX1_placeAt_6 : decode cX1_placeAt 6 = .ok (.invokevirtual 31, 3) := by decide +kernel
theorem dX1_placeAt_9 : decode cX1_placeAt 9 = .ok (.iaload, 1) := by decide +kernel
theorem dX1_placeAt_10 : decode cX1_placeAt 10 = .ok (.ireturn, 1) := by decide +kernel
theorem dX1_toldAt_0 : decode cX1_toldAt 0 = .ok (.aload_n 0, 1) := by decide +kernel
theorem dX1_toldAt_1 : decode cX1_toldAt 1 = .ok (.getfield 19, 3) := by decide +kernel
theorem dX1_toldAt_4 : decode cX1_toldAt 4 = .ok (.aload_n 0, 1) := by decide +kernel
theorem dX1_toldAt_5 : decode cX1_toldAt 5 = .ok (.iload_n 1, 1) := by decide +kernel
theorem dX1_toldAt_6 : decode cX1_toldAt 6 = .ok (.invokevirtual 31, 3) := by decide +kernel
theorem dX1_toldAt_9 : decode cX1_toldAt 9 = .ok (.iaload, 1) := by decide +kernel
theorem dX1_toldAt_10 : decode cX1_toldAt 10 = .ok (.ireturn, 1) := by decide +kernel
theorem dX4_causeOf_0 : decode cX4_causeOf 0 = .ok (.aload_n 0, 1) := by decide +kernel
theorem dX4_causeOf_1 : decode cX4_causeOf 1 = .ok (.getfield 18, 3) := by decide +kernel
theorem dX4_causeOf_4 : decode cX4_causeOf 4 = .ok (.iload_n 1, 1) := by decide +kernel
theorem dX4_causeOf_5 : decode cX4_causeOf 5 = .ok (.invokevirtual 51, 3) := by decide +kernel
theorem dX4_causeOf_8 : decode cX4_causeOf 8 = .ok (.istore 4, 2) := by decide +kernel
theorem dX4_causeOf_10 : decode cX4_causeOf 10 = .ok (.iload 4, 2) := by decide +kernel
theorem dX4_causeOf_12 : decode cX4_causeOf 12 = .ok (.iconst (-1), 1) := by decide +kernel
theorem dX4_causeOf_13 : decode cX4_causeOf 13 = .ok (.if_icmp .ne 9, 3) := by decide +kernel
theorem dX4_causeOf_16 : decode cX4_causeOf 16 = .ok (.iload_n 3, 1) := by decide +kernel
theorem dX4_causeOf_17 : decode cX4_causeOf 17 = .ok (.ifCond .eq 5, 3) := by decide +kernel
theorem dX4_causeOf_20 : decode cX4_causeOf 20 = .ok (.iconst 1, 1) := by decide +kernel
theorem dX4_causeOf_21 : decode cX4_causeOf 21 = .ok (.ireturn, 1) := by decide +kernel
theorem dX4_causeOf_22 : decode cX4_causeOf 22 = .ok (.iload 4, 2) := by decide +kernel
theorem dX4_causeOf_24 : decode cX4_causeOf 24 = .ok (.iconst (-1), 1) := by decide +kernel
theorem dX4_causeOf_25 : decode cX4_causeOf 25 = .ok (.if_icmp .eq 19, 3) := by decide +kernel
theorem dX4_causeOf_28 : decode cX4_causeOf 28 = .ok (.aload_n 0, 1) := by decide +kernel
theorem dX4_causeOf_29 : decode cX4_causeOf 29 = .ok (.getfield 18, 3) := by decide +kernel
theorem dX4_causeOf_32 : decode cX4_causeOf 32 = .ok (.getfield 73, 3) := by decide +kernel
theorem dX4_causeOf_35 : decode cX4_causeOf 35 = .ok (.iload 4, 2) := by decide +kernel
theorem dX4_causeOf_37 : decode cX4_causeOf 37 = .ok (.iaload, 1) := by decide +kernel
theorem dX4_causeOf_38 : decode cX4_causeOf 38 = .ok (.iload_n 2, 1) := by decide +kernel
theorem dX4_causeOf_39 : decode cX4_causeOf 39 = .ok (.if_icmp .eq 5, 3) := by decide +kernel
theorem dX4_causeOf_42 : decode cX4_causeOf 42 = .ok (.iconst 2, 1) := by decide +kernel
theorem dX4_causeOf_43 : decode cX4_causeOf 43 = .ok (.ireturn, 1) := by decide +kernel
theorem dX4_causeOf_44 : decode cX4_causeOf 44 = .ok (.iload_n 2, 1) := by decide +kernel
theorem dX4_causeOf_45 : decode cX4_causeOf 45 = .ok (.iconst 2, 1) := by decide +kernel
theorem dX4_causeOf_46 : decode cX4_causeOf 46 = .ok (.if_icmp .ne 5, 3) := by decide +kernel
theorem dX4_causeOf_49 : decode cX4_causeOf 49 = .ok (.iconst 3, 1) := by decide +kernel
theorem dX4_causeOf_50 : decode cX4_causeOf 50 = .ok (.ireturn, 1) := by decide +kernel
theorem dX4_causeOf_51 : decode cX4_causeOf 51 = .ok (.iload_n 2, 1) := by decide +kernel
theorem dX4_causeOf_52 : decode cX4_causeOf 52 = .ok (.iconst 3, 1) := by decide +kernel
theorem dX4_causeOf_53 : decode cX4_causeOf 53 = .ok (.if_icmp .ne 5, 3) := by decide +kernel
theorem dX4_causeOf_56 : decode cX4_causeOf 56 = .ok (.iconst 4, 1) := by decide +kernel
theorem dX4_causeOf_57 : decode cX4_causeOf 57 = .ok (.ireturn, 1) := by decide +kernel
theorem dX4_causeOf_58 : decode cX4_causeOf 58 = .ok (.iload_n 3, 1) := by decide +kernel
theorem dX4_causeOf_59 : decode cX4_causeOf 59 = .ok (.ifCond .eq 8, 3) := by decide +kernel
theorem dX4_causeOf_62 : decode cX4_causeOf 62 = .ok (.bipush 6, 2) := by decide +kernel
theorem dX4_causeOf_64 : decode cX4_causeOf 64 = .ok (.goto 4, 3) := by decide +kernel
theorem dX4_causeOf_67 : decode cX4_causeOf 67 = .ok (.iconst 5, 1) := by decide +kernel
theorem dX4_causeOf_68 : decode cX4_causeOf 68 = .ok (.ireturn, 1) := by decide +kernel
theorem dX1_dropOldest_0 : decode cX1_dropOldest 0 = .ok (.aload_n 0, 1) := by decide +kernel
theorem dX1_dropOldest_1 : decode cX1_dropOldest 1 = .ok (.aload_n 0, 1) := by decide +kernel
theorem dX1_dropOldest_2 : decode cX1_dropOldest 2 = .ok (.iconst 1, 1) := by decide +kernel
theorem dX1_dropOldest_3 : decode cX1_dropOldest 3 = .ok (.invokevirtual 31, 3) := by decide +kernel
theorem dX1_dropOldest_6 : decode cX1_dropOldest 6 = .ok (.putfield 44, 3) := by decide +kernel
theorem dX1_dropOldest_9 : decode cX1_dropOldest 9 = .ok (.aload_n 0, 1) := by decide +kernel
theorem dX1_dropOldest_10 : decode cX1_dropOldest 10 = .ok (.dup, 1) := by decide +kernel
theorem dX1_dropOldest_11 : decode cX1_dropOldest 11 = .ok (.getfield 28, 3) := by decide +kernel
theorem dX1_dropOldest_14 : decode cX1_dropOldest 14 = .ok (.iconst 1, 1) := by decide +kernel
theorem dX1_dropOldest_15 : decode cX1_dropOldest 15 = .ok (.isub, 1) := by decide +kernel
theorem dX1_dropOldest_16 : decode cX1_dropOldest 16 = .ok (.putfield 28, 3) := by decide +kernel
theorem dX1_dropOldest_19 : decode cX1_dropOldest 19 = .ok (.return_, 1) := by decide +kernel
theorem dX4_repair_0 : decode cX4_repair 0 = .ok (.aload_n 0, 1) := by decide +kernel
theorem dX4_repair_1 : decode cX4_repair 1 = .ok (.getfield 43, 3) := by decide +kernel
theorem dX4_repair_4 : decode cX4_repair 4 = .ok (.aload_n 0, 1) := by decide +kernel
theorem dX4_repair_5 : decode cX4_repair 5 = .ok (.getfield 36, 3) := by decide +kernel
theorem dX4_repair_8 : decode cX4_repair 8 = .ok (.invokevirtual 116, 3) := by decide +kernel
theorem dX4_repair_11 : decode cX4_repair 11 = .ok (.aload_n 0, 1) := by decide +kernel
theorem dX4_repair_12 : decode cX4_repair 12 = .ok (.dup, 1) := by decide +kernel
theorem dX4_repair_13 : decode cX4_repair 13 = .ok (.getfield 123, 3) := by decide +kernel
theorem dX4_repair_16 : decode cX4_repair 16 = .ok (.aload_n 0, 1) := by decide +kernel
theorem dX4_repair_17 : decode cX4_repair 17 = .ok (.getfield 43, 3) := by decide +kernel
theorem dX4_repair_20 : decode cX4_repair 20 = .ok (.getfield 58, 3) := by decide +kernel
theorem dX4_repair_23 : decode cX4_repair 23 = .ok (.iconst 1, 1) := by decide +kernel
theorem dX4_repair_24 : decode cX4_repair 24 = .ok (.isub, 1) := by decide +kernel
theorem dX4_repair_25 : decode cX4_repair 25 = .ok (.iadd, 1) := by decide +kernel
theorem dX4_repair_26 : decode cX4_repair 26 = .ok (.putfield 123, 3) := by decide +kernel
theorem dX4_repair_29 : decode cX4_repair 29 = .ok (.aload_n 0, 1) := by decide +kernel
theorem dX4_repair_30 : decode cX4_repair 30 = .ok (.getfield 43, 3) := by decide +kernel
theorem dX4_repair_33 : decode cX4_repair 33 = .ok (.invokevirtual 120, 3) := by decide +kernel
theorem dX4_repair_36 : decode cX4_repair 36 = .ok (.iload_n 3, 1) := by decide +kernel
theorem dX4_repair_37 : decode cX4_repair 37 = .ok (.ifCond .eq 9, 3) := by decide +kernel
theorem dX4_repair_40 : decode cX4_repair 40 = .ok (.aload_n 0, 1) := by decide +kernel
theorem dX4_repair_41 : decode cX4_repair 41 = .ok (.iload_n 2, 1) := by decide +kernel
theorem dX4_repair_42 : decode cX4_repair 42 = .ok (.iload_n 1, 1) := by decide +kernel
theorem dX4_repair_43 : decode cX4_repair 43 = .ok (.invokevirtual 76, 3) := by decide +kernel
theorem dX4_repair_46 : decode cX4_repair 46 = .ok (.return_, 1) := by decide +kernel
theorem dX4_update_0 : decode cX4_update 0 = .ok (.aload_n 0, 1) := by decide +kernel
theorem dX4_update_1 : decode cX4_update 1 = .ok (.getfield 18, 3) := by decide +kernel
theorem dX4_update_4 : decode cX4_update 4 = .ok (.iload_n 1, 1) := by decide +kernel
theorem dX4_update_5 : decode cX4_update 5 = .ok (.iload_n 2, 1) := by decide +kernel
theorem dX4_update_6 : decode cX4_update 6 = .ok (.iload_n 3, 1) := by decide +kernel
theorem dX4_update_7 : decode cX4_update 7 = .ok (.invokevirtual 187, 3) := by decide +kernel
theorem dX4_update_10 : decode cX4_update 10 = .ok (.iload_n 2, 1) := by decide +kernel
theorem dX4_update_11 : decode cX4_update 11 = .ok (.iconst 3, 1) := by decide +kernel
theorem dX4_update_12 : decode cX4_update 12 = .ok (.if_icmp .ne 12, 3) := by decide +kernel
theorem dX4_update_15 : decode cX4_update 15 = .ok (.aload_n 0, 1) := by decide +kernel
theorem dX4_update_16 : decode cX4_update 16 = .ok (.getfield 27, 3) := by decide +kernel
theorem dX4_update_19 : decode cX4_update 19 = .ok (.iload_n 1, 1) := by decide +kernel
theorem dX4_update_20 : decode cX4_update 20 = .ok (.iload_n 3, 1) := by decide +kernel
theorem dX4_update_21 : decode cX4_update 21 = .ok (.invokevirtual 190, 3) := by decide +kernel
theorem dX4_update_24 : decode cX4_update 24 = .ok (.aload_n 0, 1) := by decide +kernel
theorem dX4_update_25 : decode cX4_update 25 = .ok (.getfield 27, 3) := by decide +kernel
theorem dX4_update_28 : decode cX4_update 28 = .ok (.iload_n 3, 1) := by decide +kernel
theorem dX4_update_29 : decode cX4_update 29 = .ok (.invokevirtual 192, 3) := by decide +kernel
theorem dX4_update_32 : decode cX4_update 32 = .ok (.return_, 1) := by decide +kernel
theorem dX3_put_0 : decode cX3_put 0 = .ok (.aload_n 0, 1) := by decide +kernel
theorem dX3_put_1 : decode cX3_put 1 = .ok (.getfield 15, 3) := by decide +kernel
theorem dX3_put_4 : decode cX3_put 4 = .ok (.ifCond .ne 4, 3) := by decide +kernel
theorem dX3_put_7 : decode cX3_put 7 = .ok (.return_, 1) := by decide +kernel
theorem dX3_put_8 : decode cX3_put 8 = .ok (.aload_n 0, 1) := by decide +kernel
theorem dX3_put_9 : decode cX3_put 9 = .ok (.iload_n 1, 1) := by decide +kernel
theorem dX3_put_10 : decode cX3_put 10 = .ok (.invokevirtual 47, 3) := by decide +kernel
theorem dX3_put_13 : decode cX3_put 13 = .ok (.istore 4, 2) := by decide +kernel
theorem dX3_put_15 : decode cX3_put 15 = .ok (.iload 4, 2) := by decide +kernel
theorem dX3_put_17 : decode cX3_put 17 = .ok (.iconst (-1), 1) := by decide +kernel
theorem dX3_put_18 : decode cX3_put 18 = .ok (.if_icmp .ne 43, 3) := by decide +kernel
theorem dX3_put_21 : decode cX3_put 21 = .ok (.aload_n 0, 1) := by decide +kernel
theorem dX3_put_22 : decode cX3_put 22 = .ok (.iload_n 1, 1) := by decide +kernel
theorem dX3_put_23 : decode cX3_put 23 = .ok (.invokevirtual 50, 3) := by decide +kernel
theorem dX3_put_26 : decode cX3_put 26 = .ok (.istore 4, 2) := by decide +kernel
theorem dX3_put_28 : decode cX3_put 28 = .ok (.aload_n 0, 1) := by decide +kernel
theorem dX3_put_29 : decode cX3_put 29 = .ok (.getfield 21, 3) := by decide +kernel
theorem dX3_put_32 : decode cX3_put 32 = .ok (.iload 4, 2) := by decide +kernel

theorem zd_Mo_shapes_34 : decode zc_Mo_shapes 34 = .ok (.iload_n 1, 1) := by decide +kernel
theorem zd_Mo_shapes_35 : decode zc_Mo_shapes 35 = .ok (.ireturn, 1) := by decide +kernel
theorem zd_Mo_shapes_17 : decode zc_Mo_shapes 17 = .ok (.aload_n 0, 1) := by decide +kernel
theorem zd_Mo_shapes_18 : decode zc_Mo_shapes 18 = .ok (.iload_n 2, 1) := by decide +kernel
theorem zd_Mo_shapes_19 : decode zc_Mo_shapes 19 = .ok (.invokevirtual 158, 3) := by decide +kernel
theorem zd_Mo_shapes_22 : decode zc_Mo_shapes 22 = .ok (.ifCond .eq 6, 3) := by decide +kernel
theorem zd_Mo_shapes_25 : decode zc_Mo_shapes 25 = .ok (.iinc 1 1, 3) := by decide +kernel
theorem zd_Mo_shapes_28 : decode zc_Mo_shapes 28 = .ok (.iinc 2 1, 3) := by decide +kernel
theorem zd_Mo_shapes_31 : decode zc_Mo_shapes 31 = .ok (.goto (-22), 3) := by decide +kernel
theorem zd_Mo_shapes_0 : decode zc_Mo_shapes 0 = .ok (.aload_n 0, 1) := by decide +kernel
theorem zd_Mo_shapes_1 : decode zc_Mo_shapes 1 = .ok (.iconst 0, 1) := by decide +kernel
theorem zd_Mo_shapes_2 : decode zc_Mo_shapes 2 = .ok (.putfield 58, 3) := by decide +kernel
theorem zd_Mo_shapes_5 : decode zc_Mo_shapes 5 = .ok (.iconst 0, 1) := by decide +kernel
theorem zd_Mo_shapes_6 : decode zc_Mo_shapes 6 = .ok (.istore_n 1, 1) := by decide +kernel
theorem zd_Mo_shapes_7 : decode zc_Mo_shapes 7 = .ok (.iconst 0, 1) := by decide +kernel
theorem zd_Mo_shapes_8 : decode zc_Mo_shapes 8 = .ok (.istore_n 2, 1) := by decide +kernel
theorem zd_Mo_shape_13 : decode zc_Mo_shape 13 = .ok (.iload 5, 2) := by decide +kernel
theorem zd_Mo_shape_15 : decode zc_Mo_shape 15 = .ok (.aload_n 0, 1) := by decide +kernel
theorem zd_Mo_shape_16 : decode zc_Mo_shape 16 = .ok (.invokevirtual 86, 3) := by decide +kernel
theorem zd_Mo_shape_19 : decode zc_Mo_shape 19 = .ok (.if_icmp .ge 37, 3) := by decide +kernel
theorem zd_Mo_shape_22 : decode zc_Mo_shape 22 = .ok (.iload_n 3, 1) := by decide +kernel
theorem zd_Mo_shape_23 : decode zc_Mo_shape 23 = .ok (.iconst (-1), 1) := by decide +kernel
theorem zd_Mo_shape_24 : decode zc_Mo_shape 24 = .ok (.if_icmp .ne 32, 3) := by decide +kernel
theorem zd_Mo_shape_27 : decode zc_Mo_shape 27 = .ok (.aload_n 0, 1) := by decide +kernel
theorem zd_Mo_shape_28 : decode zc_Mo_shape 28 = .ok (.iload 5, 2) := by decide +kernel
theorem zd_Mo_shape_30 : decode zc_Mo_shape 30 = .ok (.invokevirtual 158, 3) := by decide +kernel
theorem zd_Mo_shape_33 : decode zc_Mo_shape 33 = .ok (.ifCond .ne 6, 3) := by decide +kernel
theorem zd_Mo_shape_39 : decode zc_Mo_shape 39 = .ok (.iload 4, 2) := by decide +kernel
theorem zd_Mo_shape_41 : decode zc_Mo_shape 41 = .ok (.ifCond .ne 6, 3) := by decide +kernel
theorem zd_Mo_shape_44 : decode zc_Mo_shape 44 = .ok (.iload 5, 2) := by decide +kernel
theorem zd_Mo_shape_46 : decode zc_Mo_shape 46 = .ok (.istore_n 3, 1) := by decide +kernel
theorem zd_Mo_shape_36 : decode zc_Mo_shape 36 = .ok (.goto 14, 3) := by decide +kernel
theorem zd_Mo_shape_47 : decode zc_Mo_shape 47 = .ok (.iinc 4 (-1), 3) := by decide +kernel
theorem zd_Mo_shape_50 : decode zc_Mo_shape 50 = .ok (.iinc 5 1, 3) := by decide +kernel
theorem zd_Mo_shape_53 : decode zc_Mo_shape 53 = .ok (.goto (-40), 3) := by decide +kernel
theorem zd_Mo_shape_56 : decode zc_Mo_shape 56 = .ok (.iload_n 3, 1) := by decide +kernel
theorem zd_Mo_shape_57 : decode zc_Mo_shape 57 = .ok (.iconst (-1), 1) := by decide +kernel
theorem zd_Mo_shape_58 : decode zc_Mo_shape 58 = .ok (.if_icmp .ne 9, 3) := by decide +kernel
theorem zd_Mo_shape_67 : decode zc_Mo_shape 67 = .ok (.iload_n 3, 1) := by decide +kernel
theorem zd_Mo_shape_68 : decode zc_Mo_shape 68 = .ok (.istore 5, 2) := by decide +kernel
theorem zd_Mo_shape_61 : decode zc_Mo_shape 61 = .ok (.aload_n 0, 1) := by decide +kernel
theorem zd_Mo_shape_62 : decode zc_Mo_shape 62 = .ok (.iconst 1, 1) := by decide +kernel
theorem zd_Mo_shape_63 : decode zc_Mo_shape 63 = .ok (.invokevirtual 161, 3) := by decide +kernel
theorem zd_Mo_shape_66 : decode zc_Mo_shape 66 = .ok (.ireturn, 1) := by decide +kernel
theorem zd_Mo_shape_70 : decode zc_Mo_shape 70 = .ok (.iload 5, 2) := by decide +kernel
theorem zd_Mo_shape_72 : decode zc_Mo_shape 72 = .ok (.aload_n 0, 1) := by decide +kernel
theorem zd_Mo_shape_73 : decode zc_Mo_shape 73 = .ok (.getfield 44, 3) := by decide +kernel
theorem zd_Mo_shape_76 : decode zc_Mo_shape 76 = .ok (.irem, 1) := by decide +kernel
theorem zd_Mo_shape_77 : decode zc_Mo_shape 77 = .ok (.aload_n 0, 1) := by decide +kernel
theorem zd_Mo_shape_78 : decode zc_Mo_shape 78 = .ok (.getfield 44, 3) := by decide +kernel
theorem zd_Mo_shape_81 : decode zc_Mo_shape 81 = .ok (.iconst 1, 1) := by decide +kernel
theorem zd_Mo_shape_82 : decode zc_Mo_shape 82 = .ok (.isub, 1) := by decide +kernel
theorem zd_Mo_shape_83 : decode zc_Mo_shape 83 = .ok (.if_icmp .ge 27, 3) := by decide +kernel
theorem zd_Mo_shape_86 : decode zc_Mo_shape 86 = .ok (.aload_n 0, 1) := by decide +kernel
theorem zd_Mo_shape_87 : decode zc_Mo_shape 87 = .ok (.getfield 17, 3) := by decide +kernel
theorem zd_Mo_shape_90 : decode zc_Mo_shape 90 = .ok (.iload 5, 2) := by decide +kernel
theorem zd_Mo_shape_92 : decode zc_Mo_shape 92 = .ok (.iconst 1, 1) := by decide +kernel
theorem zd_Mo_shape_93 : decode zc_Mo_shape 93 = .ok (.iadd, 1) := by decide +kernel
theorem zd_Mo_shape_94 : decode zc_Mo_shape 94 = .ok (.iaload, 1) := by decide +kernel
theorem zd_Mo_shape_95 : decode zc_Mo_shape 95 = .ok (.aload_n 0, 1) := by decide +kernel
theorem zd_Mo_shape_96 : decode zc_Mo_shape 96 = .ok (.getfield 17, 3) := by decide +kernel
theorem zd_Mo_shape_99 : decode zc_Mo_shape 99 = .ok (.iload_n 3, 1) := by decide +kernel
theorem zd_Mo_shape_100 : decode zc_Mo_shape 100 = .ok (.iaload, 1) := by decide +kernel
theorem zd_Mo_shape_101 : decode zc_Mo_shape 101 = .ok (.if_icmp .ne 9, 3) := by decide +kernel
theorem zd_Mo_shape_104 : decode zc_Mo_shape 104 = .ok (.iinc 5 1, 3) := by decide +kernel
theorem zd_Mo_shape_107 : decode zc_Mo_shape 107 = .ok (.goto (-37), 3) := by decide +kernel
theorem zd_Mo_shape_110 : decode zc_Mo_shape 110 = .ok (.iload_n 2, 1) := by decide +kernel
theorem zd_Mo_shape_111 : decode zc_Mo_shape 111 = .ok (.tableswitch 79 0 4 #[33, 45, 57, 64, 72], 33) := by decide +kernel
theorem zd_Mo_shape_144 : decode zc_Mo_shape 144 = .ok (.iload_n 3, 1) := by decide +kernel
theorem zd_Mo_shape_145 : decode zc_Mo_shape 145 = .ok (.aload_n 0, 1) := by decide +kernel
theorem zd_Mo_shape_146 : decode zc_Mo_shape 146 = .ok (.getfield 44, 3) := by decide +kernel
theorem zd_Mo_shape_149 : decode zc_Mo_shape 149 = .ok (.aload_n 0, 1) := by decide +kernel
theorem zd_Mo_shape_150 : decode zc_Mo_shape 150 = .ok (.getfield 48, 3) := by decide +kernel
theorem zd_Mo_shape_153 : decode zc_Mo_shape 153 = .ok (.imul, 1) := by decide +kernel
theorem zd_Mo_shape_154 : decode zc_Mo_shape 154 = .ok (.idiv, 1) := by decide +kernel
theorem zd_Mo_shape_155 : decode zc_Mo_shape 155 = .ok (.ireturn, 1) := by decide +kernel
theorem zd_Mo_shape_156 : decode zc_Mo_shape 156 = .ok (.iload_n 3, 1) := by decide +kernel
theorem zd_Mo_shape_157 : decode zc_Mo_shape 157 = .ok (.aload_n 0, 1) := by decide +kernel
theorem zd_Mo_shape_158 : decode zc_Mo_shape 158 = .ok (.getfield 44, 3) := by decide +kernel
theorem zd_Mo_shape_161 : decode zc_Mo_shape 161 = .ok (.idiv, 1) := by decide +kernel
theorem zd_Mo_shape_162 : decode zc_Mo_shape 162 = .ok (.aload_n 0, 1) := by decide +kernel
theorem zd_Mo_shape_163 : decode zc_Mo_shape 163 = .ok (.getfield 48, 3) := by decide +kernel
theorem zd_Mo_shape_166 : decode zc_Mo_shape 166 = .ok (.irem, 1) := by decide +kernel
theorem zd_Mo_shape_167 : decode zc_Mo_shape 167 = .ok (.ireturn, 1) := by decide +kernel
theorem zd_Mo_shape_168 : decode zc_Mo_shape 168 = .ok (.iload_n 3, 1) := by decide +kernel
theorem zd_Mo_shape_169 : decode zc_Mo_shape 169 = .ok (.aload_n 0, 1) := by decide +kernel
theorem zd_Mo_shape_170 : decode zc_Mo_shape 170 = .ok (.getfield 44, 3) := by decide +kernel
theorem zd_Mo_shape_173 : decode zc_Mo_shape 173 = .ok (.irem, 1) := by decide +kernel
theorem zd_Mo_shape_174 : decode zc_Mo_shape 174 = .ok (.ireturn, 1) := by decide +kernel
theorem zd_Mo_shape_175 : decode zc_Mo_shape 175 = .ok (.iload 5, 2) := by decide +kernel
theorem zd_Mo_shape_177 : decode zc_Mo_shape 177 = .ok (.aload_n 0, 1) := by decide +kernel
theorem zd_Mo_shape_178 : decode zc_Mo_shape 178 = .ok (.getfield 44, 3) := by decide +kernel
theorem zd_Mo_shape_181 : decode zc_Mo_shape 181 = .ok (.irem, 1) := by decide +kernel
theorem zd_Mo_shape_182 : decode zc_Mo_shape 182 = .ok (.ireturn, 1) := by decide +kernel
theorem zd_Mo_shape_183 : decode zc_Mo_shape 183 = .ok (.aload_n 0, 1) := by decide +kernel
theorem zd_Mo_shape_184 : decode zc_Mo_shape 184 = .ok (.getfield 17, 3) := by decide +kernel
theorem zd_Mo_shape_187 : decode zc_Mo_shape 187 = .ok (.iload_n 3, 1) := by decide +kernel
theorem zd_Mo_shape_188 : decode zc_Mo_shape 188 = .ok (.iaload, 1) := by decide +kernel
theorem zd_Mo_shape_189 : decode zc_Mo_shape 189 = .ok (.ireturn, 1) := by decide +kernel
theorem zd_Mo_shape_190 : decode zc_Mo_shape 190 = .ok (.aload_n 0, 1) := by decide +kernel
theorem zd_Mo_shape_191 : decode zc_Mo_shape 191 = .ok (.iconst 2, 1) := by decide +kernel
theorem zd_Mo_shape_192 : decode zc_Mo_shape 192 = .ok (.invokevirtual 161, 3) := by decide +kernel
theorem zd_Mo_shape_195 : decode zc_Mo_shape 195 = .ok (.ireturn, 1) := by decide +kernel
theorem zd_Mo_shape_0 : decode zc_Mo_shape 0 = .ok (.aload_n 0, 1) := by decide +kernel
theorem zd_Mo_shape_1 : decode zc_Mo_shape 1 = .ok (.iconst 0, 1) := by decide +kernel
theorem zd_Mo_shape_2 : decode zc_Mo_shape 2 = .ok (.putfield 58, 3) := by decide +kernel
theorem zd_Mo_shape_5 : decode zc_Mo_shape 5 = .ok (.iconst (-1), 1) := by decide +kernel
theorem zd_Mo_shape_6 : decode zc_Mo_shape 6 = .ok (.istore_n 3, 1) := by decide +kernel
theorem zd_Mo_shape_7 : decode zc_Mo_shape 7 = .ok (.iload_n 1, 1) := by decide +kernel
theorem zd_Mo_shape_8 : decode zc_Mo_shape 8 = .ok (.istore 4, 2) := by decide +kernel
theorem zd_Mo_shape_10 : decode zc_Mo_shape 10 = .ok (.iconst 0, 1) := by decide +kernel
theorem zd_Mo_shape_11 : decode zc_Mo_shape 11 = .ok (.istore 5, 2) := by decide +kernel
theorem zd_Checker_count_0 : decode zc_Checker_count 0 = .ok (.iload_n 1, 1) := by decide +kernel
theorem zd_Checker_count_1 : decode zc_Checker_count 1 = .ok (.tableswitch 42 0 2 #[27, 32, 37], 27) := by decide +kernel
theorem zd_Checker_count_28 : decode zc_Checker_count 28 = .ok (.aload_n 0, 1) := by decide +kernel
theorem zd_Checker_count_29 : decode zc_Checker_count 29 = .ok (.invokevirtual 44, 3) := by decide +kernel
theorem zd_Checker_count_32 : decode zc_Checker_count 32 = .ok (.ireturn, 1) := by decide +kernel
theorem zd_Checker_count_33 : decode zc_Checker_count 33 = .ok (.aload_n 0, 1) := by decide +kernel
theorem zd_Checker_count_34 : decode zc_Checker_count 34 = .ok (.invokevirtual 48, 3) := by decide +kernel
theorem zd_Checker_count_37 : decode zc_Checker_count 37 = .ok (.ireturn, 1) := by decide +kernel
theorem zd_Checker_count_38 : decode zc_Checker_count 38 = .ok (.aload_n 0, 1) := by decide +kernel
theorem zd_Checker_count_39 : decode zc_Checker_count 39 = .ok (.invokevirtual 51, 3) := by decide +kernel
theorem zd_Checker_count_42 : decode zc_Checker_count 42 = .ok (.ireturn, 1) := by decide +kernel
theorem zd_Checker_count_43 : decode zc_Checker_count 43 = .ok (.aload_n 0, 1) := by decide +kernel
theorem zd_Checker_count_44 : decode zc_Checker_count 44 = .ok (.invokevirtual 54, 3) := by decide +kernel
theorem zd_Checker_count_47 : decode zc_Checker_count 47 = .ok (.ireturn, 1) := by decide +kernel
theorem zd_Checker_misplaced_4 : decode zc_Checker_misplaced 4 = .ok (.iload_n 2, 1) := by decide +kernel
theorem zd_Checker_misplaced_5 : decode zc_Checker_misplaced 5 = .ok (.aload_n 0, 1) := by decide +kernel
theorem zd_Checker_misplaced_6 : decode zc_Checker_misplaced 6 = .ok (.getfield 15, 3) := by decide +kernel
theorem zd_Checker_misplaced_9 : decode zc_Checker_misplaced 9 = .ok (.getfield 31, 3) := by decide +kernel
theorem zd_Checker_misplaced_12 : decode zc_Checker_misplaced 12 = .ok (.if_icmp .ge 62, 3) := by decide +kernel
theorem zd_Checker_misplaced_74 : decode zc_Checker_misplaced 74 = .ok (.iload_n 1, 1) := by decide +kernel
theorem zd_Checker_misplaced_75 : decode zc_Checker_misplaced 75 = .ok (.ireturn, 1) := by decide +kernel
theorem zd_Checker_misplaced_15 : decode zc_Checker_misplaced 15 = .ok (.aload_n 0, 1) := by decide +kernel
theorem zd_Checker_misplaced_16 : decode zc_Checker_misplaced 16 = .ok (.getfield 23, 3) := by decide +kernel
theorem zd_Checker_misplaced_19 : decode zc_Checker_misplaced 19 = .ok (.getfield 57, 3) := by decide +kernel
theorem zd_Checker_misplaced_22 : decode zc_Checker_misplaced 22 = .ok (.iload_n 2, 1) := by decide +kernel
theorem zd_Checker_misplaced_23 : decode zc_Checker_misplaced 23 = .ok (.iaload, 1) := by decide +kernel
theorem zd_Checker_misplaced_24 : decode zc_Checker_misplaced 24 = .ok (.istore_n 3, 1) := by decide +kernel
theorem zd_Checker_misplaced_25 : decode zc_Checker_misplaced 25 = .ok (.aload_n 0, 1) := by decide +kernel
theorem zd_Checker_misplaced_26 : decode zc_Checker_misplaced 26 = .ok (.getfield 19, 3) := by decide +kernel
theorem zd_Checker_misplaced_29 : decode zc_Checker_misplaced 29 = .ok (.getfield 62, 3) := by decide +kernel
theorem zd_Checker_misplaced_32 : decode zc_Checker_misplaced 32 = .ok (.iload_n 2, 1) := by decide +kernel
theorem zd_Checker_misplaced_33 : decode zc_Checker_misplaced 33 = .ok (.iaload, 1) := by decide +kernel
theorem zd_Checker_misplaced_34 : decode zc_Checker_misplaced 34 = .ok (.istore 4, 2) := by decide +kernel
theorem zd_Checker_misplaced_36 : decode zc_Checker_misplaced 36 = .ok (.iload_n 3, 1) := by decide +kernel
theorem zd_Checker_misplaced_37 : decode zc_Checker_misplaced 37 = .ok (.iconst (-1), 1) := by decide +kernel
theorem zd_Checker_misplaced_38 : decode zc_Checker_misplaced 38 = .ok (.if_icmp .eq 30, 3) := by decide +kernel
theorem zd_Checker_misplaced_41 : decode zc_Checker_misplaced 41 = .ok (.aload_n 0, 1) := by decide +kernel
theorem zd_Checker_misplaced_42 : decode zc_Checker_misplaced 42 = .ok (.getfield 27, 3) := by decide +kernel
theorem zd_Checker_misplaced_45 : decode zc_Checker_misplaced 45 = .ok (.getfield 67, 3) := by decide +kernel
theorem zd_Checker_misplaced_48 : decode zc_Checker_misplaced 48 = .ok (.iload_n 2, 1) := by decide +kernel
theorem zd_Checker_misplaced_49 : decode zc_Checker_misplaced 49 = .ok (.baload, 1) := by decide +kernel
theorem zd_Checker_misplaced_50 : decode zc_Checker_misplaced 50 = .ok (.ifCond .ne 15, 3) := by decide +kernel
theorem zd_Checker_misplaced_53 : decode zc_Checker_misplaced 53 = .ok (.iload 4, 2) := by decide +kernel
theorem zd_Checker_misplaced_55 : decode zc_Checker_misplaced 55 = .ok (.iconst (-1), 1) := by decide +kernel
theorem zd_Checker_misplaced_56 : decode zc_Checker_misplaced 56 = .ok (.if_icmp .eq 12, 3) := by decide +kernel
theorem zd_Checker_misplaced_59 : decode zc_Checker_misplaced 59 = .ok (.iload 4, 2) := by decide +kernel
theorem zd_Checker_misplaced_61 : decode zc_Checker_misplaced 61 = .ok (.iload_n 3, 1) := by decide +kernel
theorem zd_Checker_misplaced_62 : decode zc_Checker_misplaced 62 = .ok (.if_icmp .eq 6, 3) := by decide +kernel
theorem zd_Checker_misplaced_65 : decode zc_Checker_misplaced 65 = .ok (.iinc 1 1, 3) := by decide +kernel
theorem zd_Checker_misplaced_68 : decode zc_Checker_misplaced 68 = .ok (.iinc 2 1, 3) := by decide +kernel
theorem zd_Checker_misplaced_71 : decode zc_Checker_misplaced 71 = .ok (.goto (-67), 3) := by decide +kernel
theorem zd_Checker_misplaced_0 : decode zc_Checker_misplaced 0 = .ok (.iconst 0, 1) := by decide +kernel
theorem zd_Checker_misplaced_1 : decode zc_Checker_misplaced 1 = .ok (.istore_n 1, 1) := by decide +kernel
theorem zd_Checker_misplaced_2 : decode zc_Checker_misplaced 2 = .ok (.iconst 0, 1) := by decide +kernel
theorem zd_Checker_misplaced_3 : decode zc_Checker_misplaced 3 = .ok (.istore_n 2, 1) := by decide +kernel
theorem zd_Checker_crowded_14 : decode zc_Checker_crowded 14 = .ok (.iload_n 2, 1) := by decide +kernel
theorem zd_Checker_crowded_15 : decode zc_Checker_crowded 15 = .ok (.aload_n 0, 1) := by decide +kernel
theorem zd_Checker_crowded_16 : decode zc_Checker_crowded 16 = .ok (.getfield 15, 3) := by decide +kernel
theorem zd_Checker_crowded_19 : decode zc_Checker_crowded 19 = .ok (.getfield 31, 3) := by decide +kernel
theorem zd_Checker_crowded_22 : decode zc_Checker_crowded 22 = .ok (.if_icmp .ge 43, 3) := by decide +kernel
theorem zd_Checker_crowded_25 : decode zc_Checker_crowded 25 = .ok (.iload_n 1, 1) := by decide +kernel
theorem zd_Checker_crowded_26 : decode zc_Checker_crowded 26 = .ok (.aload_n 0, 1) := by decide +kernel
theorem zd_Checker_crowded_27 : decode zc_Checker_crowded 27 = .ok (.iload_n 2, 1) := by decide +kernel
theorem zd_Checker_crowded_28 : decode zc_Checker_crowded 28 = .ok (.aload_n 0, 1) := by decide +kernel
theorem zd_Checker_crowded_29 : decode zc_Checker_crowded 29 = .ok (.getfield 15, 3) := by decide +kernel
theorem zd_Checker_crowded_32 : decode zc_Checker_crowded 32 = .ok (.iload_n 2, 1) := by decide +kernel
theorem zd_Checker_crowded_33 : decode zc_Checker_crowded 33 = .ok (.iconst 1, 1) := by decide +kernel
theorem zd_Checker_crowded_34 : decode zc_Checker_crowded 34 = .ok (.invokevirtual 76, 3) := by decide +kernel
theorem zd_Checker_crowded_37 : decode zc_Checker_crowded 37 = .ok (.invokevirtual 80, 3) := by decide +kernel
theorem zd_Checker_crowded_40 : decode zc_Checker_crowded 40 = .ok (.iadd, 1) := by decide +kernel
theorem zd_Checker_crowded_41 : decode zc_Checker_crowded 41 = .ok (.istore_n 1, 1) := by decide +kernel
theorem zd_Checker_crowded_42 : decode zc_Checker_crowded 42 = .ok (.iload_n 1, 1) := by decide +kernel
theorem zd_Checker_crowded_43 : decode zc_Checker_crowded 43 = .ok (.aload_n 0, 1) := by decide +kernel
theorem zd_Checker_crowded_44 : decode zc_Checker_crowded 44 = .ok (.iload_n 2, 1) := by decide +kernel
theorem zd_Checker_crowded_45 : decode zc_Checker_crowded 45 = .ok (.aload_n 0, 1) := by decide +kernel
theorem zd_Checker_crowded_46 : decode zc_Checker_crowded 46 = .ok (.getfield 15, 3) := by decide +kernel
theorem zd_Checker_crowded_49 : decode zc_Checker_crowded 49 = .ok (.iload_n 2, 1) := by decide +kernel
theorem zd_Checker_crowded_50 : decode zc_Checker_crowded 50 = .ok (.iconst 3, 1) := by decide +kernel
theorem zd_Checker_crowded_51 : decode zc_Checker_crowded 51 = .ok (.invokevirtual 76, 3) := by decide +kernel
theorem zd_Checker_crowded_54 : decode zc_Checker_crowded 54 = .ok (.invokevirtual 80, 3) := by decide +kernel
theorem zd_Checker_crowded_57 : decode zc_Checker_crowded 57 = .ok (.iadd, 1) := by decide +kernel
theorem zd_Checker_crowded_58 : decode zc_Checker_crowded 58 = .ok (.istore_n 1, 1) := by decide +kernel
theorem zd_Checker_crowded_59 : decode zc_Checker_crowded 59 = .ok (.iinc 2 1, 3) := by decide +kernel
theorem zd_Checker_crowded_62 : decode zc_Checker_crowded 62 = .ok (.goto (-48), 3) := by decide +kernel
theorem zd_Checker_crowded_65 : decode zc_Checker_crowded 65 = .ok (.iload_n 1, 1) := by decide +kernel
theorem zd_Checker_crowded_66 : decode zc_Checker_crowded 66 = .ok (.ireturn, 1) := by decide +kernel
theorem zd_Checker_crowded_0 : decode zc_Checker_crowded 0 = .ok (.iconst 0, 1) := by decide +kernel
theorem zd_Checker_crowded_1 : decode zc_Checker_crowded 1 = .ok (.istore_n 1, 1) := by decide +kernel
theorem zd_Checker_crowded_2 : decode zc_Checker_crowded 2 = .ok (.aload_n 0, 1) := by decide +kernel
theorem zd_Checker_crowded_3 : decode zc_Checker_crowded 3 = .ok (.getfield 27, 3) := by decide +kernel
theorem zd_Checker_crowded_6 : decode zc_Checker_crowded 6 = .ok (.getfield 72, 3) := by decide +kernel
theorem zd_Checker_crowded_9 : decode zc_Checker_crowded 9 = .ok (.ifCond .eq 56, 3) := by decide +kernel
theorem zd_Checker_crowded_12 : decode zc_Checker_crowded 12 = .ok (.iconst 0, 1) := by decide +kernel
theorem zd_Checker_crowded_13 : decode zc_Checker_crowded 13 = .ok (.istore_n 2, 1) := by decide +kernel
theorem zd_Checker_clash_31 : decode zc_Checker_clash 31 = .ok (.iconst 0, 1) := by decide +kernel
theorem zd_Checker_clash_32 : decode zc_Checker_clash 32 = .ok (.ireturn, 1) := by decide +kernel
theorem zd_Checker_clash_59 : decode zc_Checker_clash 59 = .ok (.ireturn, 1) := by decide +kernel
theorem zd_Checker_clash_0 : decode zc_Checker_clash 0 = .ok (.iload_n 2, 1) := by decide +kernel
theorem zd_Checker_clash_1 : decode zc_Checker_clash 1 = .ok (.iconst (-1), 1) := by decide +kernel
theorem zd_Checker_clash_2 : decode zc_Checker_clash 2 = .ok (.if_icmp .eq 29, 3) := by decide +kernel
theorem zd_Checker_clash_5 : decode zc_Checker_clash 5 = .ok (.aload_n 0, 1) := by decide +kernel
theorem zd_Checker_clash_6 : decode zc_Checker_clash 6 = .ok (.getfield 23, 3) := by decide +kernel
theorem zd_Checker_clash_9 : decode zc_Checker_clash 9 = .ok (.getfield 57, 3) := by decide +kernel
theorem zd_Checker_clash_12 : decode zc_Checker_clash 12 = .ok (.iload_n 1, 1) := by decide +kernel
theorem zd_Checker_clash_13 : decode zc_Checker_clash 13 = .ok (.iaload, 1) := by decide +kernel
theorem zd_Checker_clash_14 : decode zc_Checker_clash 14 = .ok (.iconst (-1), 1) := by decide +kernel
theorem zd_Checker_clash_15 : decode zc_Checker_clash 15 = .ok (.if_icmp .eq 16, 3) := by decide +kernel
theorem zd_Checker_clash_18 : decode zc_Checker_clash 18 = .ok (.aload_n 0, 1) := by decide +kernel
theorem zd_Checker_clash_19 : decode zc_Checker_clash 19 = .ok (.getfield 23, 3) := by decide +kernel
theorem zd_Checker_clash_22 : decode zc_Checker_clash 22 = .ok (.getfield 57, 3) := by decide +kernel
theorem zd_Checker_clash_25 : decode zc_Checker_clash 25 = .ok (.iload_n 2, 1) := by decide +kernel
theorem zd_Checker_clash_26 : decode zc_Checker_clash 26 = .ok (.iaload, 1) := by decide +kernel
theorem zd_Checker_clash_27 : decode zc_Checker_clash 27 = .ok (.iconst (-1), 1) := by decide +kernel
theorem zd_Checker_clash_28 : decode zc_Checker_clash 28 = .ok (.if_icmp .ne 5, 3) := by decide +kernel
theorem zd_Checker_clash_33 : decode zc_Checker_clash 33 = .ok (.aload_n 0, 1) := by decide +kernel
theorem zd_Checker_clash_34 : decode zc_Checker_clash 34 = .ok (.getfield 23, 3) := by decide +kernel
theorem zd_Checker_clash_37 : decode zc_Checker_clash 37 = .ok (.getfield 57, 3) := by decide +kernel
theorem zd_Checker_clash_40 : decode zc_Checker_clash 40 = .ok (.iload_n 1, 1) := by decide +kernel
theorem zd_Checker_clash_41 : decode zc_Checker_clash 41 = .ok (.iaload, 1) := by decide +kernel
theorem zd_Checker_clash_42 : decode zc_Checker_clash 42 = .ok (.aload_n 0, 1) := by decide +kernel
theorem zd_Checker_clash_43 : decode zc_Checker_clash 43 = .ok (.getfield 23, 3) := by decide +kernel
theorem zd_Checker_clash_46 : decode zc_Checker_clash 46 = .ok (.getfield 57, 3) := by decide +kernel
theorem zd_Checker_clash_49 : decode zc_Checker_clash 49 = .ok (.iload_n 2, 1) := by decide +kernel
theorem zd_Checker_clash_50 : decode zc_Checker_clash 50 = .ok (.iaload, 1) := by decide +kernel
theorem zd_Checker_clash_51 : decode zc_Checker_clash 51 = .ok (.if_icmp .ne 7, 3) := by decide +kernel
theorem zd_Checker_clash_58 : decode zc_Checker_clash 58 = .ok (.iconst 1, 1) := by decide +kernel
theorem zd_Checker_clash_54 : decode zc_Checker_clash 54 = .ok (.iconst 0, 1) := by decide +kernel
theorem zd_Checker_clash_55 : decode zc_Checker_clash 55 = .ok (.goto 4, 3) := by decide +kernel
theorem zd_Checker_badVias_4 : decode zc_Checker_badVias 4 = .ok (.iload_n 2, 1) := by decide +kernel
theorem zd_Checker_badVias_5 : decode zc_Checker_badVias 5 = .ok (.aload_n 0, 1) := by decide +kernel
theorem zd_Checker_badVias_6 : decode zc_Checker_badVias 6 = .ok (.getfield 15, 3) := by decide +kernel
theorem zd_Checker_badVias_9 : decode zc_Checker_badVias 9 = .ok (.getfield 83, 3) := by decide +kernel
theorem zd_Checker_badVias_12 : decode zc_Checker_badVias 12 = .ok (.if_icmp .ge 60, 3) := by decide +kernel
theorem zd_Checker_badVias_72 : decode zc_Checker_badVias 72 = .ok (.iload_n 1, 1) := by decide +kernel
theorem zd_Checker_badVias_73 : decode zc_Checker_badVias 73 = .ok (.ireturn, 1) := by decide +kernel
theorem zd_Checker_badVias_15 : decode zc_Checker_badVias 15 = .ok (.aload_n 0, 1) := by decide +kernel
theorem zd_Checker_badVias_16 : decode zc_Checker_badVias 16 = .ok (.getfield 23, 3) := by decide +kernel
theorem zd_Checker_badVias_19 : decode zc_Checker_badVias 19 = .ok (.getfield 86, 3) := by decide +kernel
theorem zd_Checker_badVias_22 : decode zc_Checker_badVias 22 = .ok (.iload_n 2, 1) := by decide +kernel
theorem zd_Checker_badVias_23 : decode zc_Checker_badVias 23 = .ok (.baload, 1) := by decide +kernel
theorem zd_Checker_badVias_24 : decode zc_Checker_badVias 24 = .ok (.ifCond .eq 42, 3) := by decide +kernel
theorem zd_Checker_badVias_27 : decode zc_Checker_badVias 27 = .ok (.aload_n 0, 1) := by decide +kernel
theorem zd_Checker_badVias_28 : decode zc_Checker_badVias 28 = .ok (.getfield 23, 3) := by decide +kernel
theorem zd_Checker_badVias_31 : decode zc_Checker_badVias 31 = .ok (.getfield 57, 3) := by decide +kernel
theorem zd_Checker_badVias_34 : decode zc_Checker_badVias 34 = .ok (.iload_n 2, 1) := by decide +kernel
theorem zd_Checker_badVias_35 : decode zc_Checker_badVias 35 = .ok (.iaload, 1) := by decide +kernel
theorem zd_Checker_badVias_36 : decode zc_Checker_badVias 36 = .ok (.istore_n 3, 1) := by decide +kernel
theorem zd_Checker_badVias_37 : decode zc_Checker_badVias 37 = .ok (.iload_n 3, 1) := by decide +kernel
theorem zd_Checker_badVias_38 : decode zc_Checker_badVias 38 = .ok (.iconst (-1), 1) := by decide +kernel
theorem zd_Checker_badVias_39 : decode zc_Checker_badVias 39 = .ok (.if_icmp .eq 24, 3) := by decide +kernel
theorem zd_Checker_badVias_42 : decode zc_Checker_badVias 42 = .ok (.aload_n 0, 1) := by decide +kernel
theorem zd_Checker_badVias_43 : decode zc_Checker_badVias 43 = .ok (.getfield 23, 3) := by decide +kernel
theorem zd_Checker_badVias_46 : decode zc_Checker_badVias 46 = .ok (.getfield 57, 3) := by decide +kernel
theorem zd_Checker_badVias_49 : decode zc_Checker_badVias 49 = .ok (.iload_n 2, 1) := by decide +kernel
theorem zd_Checker_badVias_50 : decode zc_Checker_badVias 50 = .ok (.aload_n 0, 1) := by decide +kernel
theorem zd_Checker_badVias_51 : decode zc_Checker_badVias 51 = .ok (.getfield 15, 3) := by decide +kernel
theorem zd_Checker_badVias_54 : decode zc_Checker_badVias 54 = .ok (.getfield 83, 3) := by decide +kernel
theorem zd_Checker_badVias_57 : decode zc_Checker_badVias 57 = .ok (.iadd, 1) := by decide +kernel
theorem zd_Checker_badVias_58 : decode zc_Checker_badVias 58 = .ok (.iaload, 1) := by decide +kernel
theorem zd_Checker_badVias_59 : decode zc_Checker_badVias 59 = .ok (.iload_n 3, 1) := by decide +kernel
theorem zd_Checker_badVias_60 : decode zc_Checker_badVias 60 = .ok (.if_icmp .eq 6, 3) := by decide +kernel
theorem zd_Checker_badVias_63 : decode zc_Checker_badVias 63 = .ok (.iinc 1 1, 3) := by decide +kernel
theorem zd_Checker_badVias_66 : decode zc_Checker_badVias 66 = .ok (.iinc 2 1, 3) := by decide +kernel
theorem zd_Checker_badVias_69 : decode zc_Checker_badVias 69 = .ok (.goto (-65), 3) := by decide +kernel
theorem zd_Checker_badVias_0 : decode zc_Checker_badVias 0 = .ok (.iconst 0, 1) := by decide +kernel
theorem zd_Checker_badVias_1 : decode zc_Checker_badVias 1 = .ok (.istore_n 1, 1) := by decide +kernel
theorem zd_Checker_badVias_2 : decode zc_Checker_badVias 2 = .ok (.iconst 0, 1) := by decide +kernel
theorem zd_Checker_badVias_3 : decode zc_Checker_badVias 3 = .ok (.istore_n 2, 1) := by decide +kernel
theorem zd_Checker_loose_4 : decode zc_Checker_loose 4 = .ok (.iload_n 2, 1) := by decide +kernel
theorem zd_Checker_loose_5 : decode zc_Checker_loose 5 = .ok (.aload_n 0, 1) := by decide +kernel
theorem zd_Checker_loose_6 : decode zc_Checker_loose 6 = .ok (.getfield 19, 3) := by decide +kernel
theorem zd_Checker_loose_9 : decode zc_Checker_loose 9 = .ok (.getfield 89, 3) := by decide +kernel
theorem zd_Checker_loose_12 : decode zc_Checker_loose 12 = .ok (.if_icmp .ge 20, 3) := by decide +kernel
theorem zd_Checker_loose_32 : decode zc_Checker_loose 32 = .ok (.iload_n 1, 1) := by decide +kernel
theorem zd_Checker_loose_33 : decode zc_Checker_loose 33 = .ok (.ireturn, 1) := by decide +kernel
theorem zd_Checker_loose_15 : decode zc_Checker_loose 15 = .ok (.aload_n 0, 1) := by decide +kernel
theorem zd_Checker_loose_16 : decode zc_Checker_loose 16 = .ok (.iload_n 2, 1) := by decide +kernel
theorem zd_Checker_loose_17 : decode zc_Checker_loose 17 = .ok (.invokevirtual 92, 3) := by decide +kernel
theorem zd_Checker_loose_20 : decode zc_Checker_loose 20 = .ok (.ifCond .ne 6, 3) := by decide +kernel
theorem zd_Checker_loose_23 : decode zc_Checker_loose 23 = .ok (.iinc 1 1, 3) := by decide +kernel
theorem zd_Checker_loose_26 : decode zc_Checker_loose 26 = .ok (.iinc 2 1, 3) := by decide +kernel
theorem zd_Checker_loose_29 : decode zc_Checker_loose 29 = .ok (.goto (-25), 3) := by decide +kernel
theorem zd_Checker_loose_0 : decode zc_Checker_loose 0 = .ok (.iconst 0, 1) := by decide +kernel
theorem zd_Checker_loose_1 : decode zc_Checker_loose 1 = .ok (.istore_n 1, 1) := by decide +kernel
theorem zd_Checker_loose_2 : decode zc_Checker_loose 2 = .ok (.iconst 0, 1) := by decide +kernel
theorem zd_Checker_loose_3 : decode zc_Checker_loose 3 = .ok (.istore_n 2, 1) := by decide +kernel
theorem zd_Checker_isJoined_2 : decode zc_Checker_isJoined 2 = .ok (.iload_n 2, 1) := by decide +kernel
theorem zd_Checker_isJoined_3 : decode zc_Checker_isJoined 3 = .ok (.aload_n 0, 1) := by decide +kernel
theorem zd_Checker_isJoined_4 : decode zc_Checker_isJoined 4 = .ok (.getfield 15, 3) := by decide +kernel
theorem zd_Checker_isJoined_7 : decode zc_Checker_isJoined 7 = .ok (.getfield 31, 3) := by decide +kernel
theorem zd_Checker_isJoined_10 : decode zc_Checker_isJoined 10 = .ok (.if_icmp .ge 16, 3) := by decide +kernel
theorem zd_Checker_isJoined_26 : decode zc_Checker_isJoined 26 = .ok (.aload_n 0, 1) := by decide +kernel
theorem zd_Checker_isJoined_27 : decode zc_Checker_isJoined 27 = .ok (.iconst 0, 1) := by decide +kernel
theorem zd_Checker_isJoined_28 : decode zc_Checker_isJoined 28 = .ok (.putfield 9, 3) := by decide +kernel
theorem zd_Checker_isJoined_31 : decode zc_Checker_isJoined 31 = .ok (.aload_n 0, 1) := by decide +kernel
theorem zd_Checker_isJoined_32 : decode zc_Checker_isJoined 32 = .ok (.aload_n 0, 1) := by decide +kernel
theorem zd_Checker_isJoined_33 : decode zc_Checker_isJoined 33 = .ok (.getfield 19, 3) := by decide +kernel
theorem zd_Checker_isJoined_36 : decode zc_Checker_isJoined 36 = .ok (.getfield 96, 3) := by decide +kernel
theorem zd_Checker_isJoined_39 : decode zc_Checker_isJoined 39 = .ok (.iload_n 1, 1) := by decide +kernel
theorem zd_Checker_isJoined_40 : decode zc_Checker_isJoined 40 = .ok (.iaload, 1) := by decide +kernel
theorem zd_Checker_isJoined_41 : decode zc_Checker_isJoined 41 = .ok (.iload_n 1, 1) := by decide +kernel
theorem zd_Checker_isJoined_42 : decode zc_Checker_isJoined 42 = .ok (.invokevirtual 99, 3) := by decide +kernel
theorem zd_Checker_isJoined_45 : decode zc_Checker_isJoined 45 = .ok (.iconst 0, 1) := by decide +kernel
theorem zd_Checker_isJoined_46 : decode zc_Checker_isJoined 46 = .ok (.istore_n 2, 1) := by decide +kernel
theorem zd_Checker_isJoined_13 : decode zc_Checker_isJoined 13 = .ok (.aload_n 0, 1) := by decide +kernel
theorem zd_Checker_isJoined_14 : decode zc_Checker_isJoined 14 = .ok (.getfield 40, 3) := by decide +kernel
theorem zd_Checker_isJoined_17 : decode zc_Checker_isJoined 17 = .ok (.iload_n 2, 1) := by decide +kernel
theorem zd_Checker_isJoined_18 : decode zc_Checker_isJoined 18 = .ok (.iconst 0, 1) := by decide +kernel
theorem zd_Checker_isJoined_19 : decode zc_Checker_isJoined 19 = .ok (.bastore, 1) := by decide +kernel
theorem zd_Checker_isJoined_20 : decode zc_Checker_isJoined 20 = .ok (.iinc 2 1, 3) := by decide +kernel
theorem zd_Checker_isJoined_23 : decode zc_Checker_isJoined 23 = .ok (.goto (-21), 3) := by decide +kernel
theorem zd_Checker_isJoined_47 : decode zc_Checker_isJoined 47 = .ok (.iload_n 2, 1) := by decide +kernel
theorem zd_Checker_isJoined_48 : decode zc_Checker_isJoined 48 = .ok (.aload_n 0, 1) := by decide +kernel
theorem zd_Checker_isJoined_49 : decode zc_Checker_isJoined 49 = .ok (.getfield 9, 3) := by decide +kernel
theorem zd_Checker_isJoined_52 : decode zc_Checker_isJoined 52 = .ok (.if_icmp .ge 31, 3) := by decide +kernel
theorem zd_Checker_isJoined_55 : decode zc_Checker_isJoined 55 = .ok (.iload_n 2, 1) := by decide +kernel
theorem zd_Checker_isJoined_56 : decode zc_Checker_isJoined 56 = .ok (.aload_n 0, 1) := by decide +kernel
theorem zd_Checker_isJoined_57 : decode zc_Checker_isJoined 57 = .ok (.getfield 15, 3) := by decide +kernel
theorem zd_Checker_isJoined_60 : decode zc_Checker_isJoined 60 = .ok (.getfield 31, 3) := by decide +kernel
theorem zd_Checker_isJoined_63 : decode zc_Checker_isJoined 63 = .ok (.if_icmp .ge 20, 3) := by decide +kernel
theorem zd_Checker_isJoined_66 : decode zc_Checker_isJoined 66 = .ok (.aload_n 0, 1) := by decide +kernel
theorem zd_Checker_isJoined_67 : decode zc_Checker_isJoined 67 = .ok (.aload_n 0, 1) := by decide +kernel
theorem zd_Checker_isJoined_68 : decode zc_Checker_isJoined 68 = .ok (.getfield 36, 3) := by decide +kernel
theorem zd_Checker_isJoined_71 : decode zc_Checker_isJoined 71 = .ok (.iload_n 2, 1) := by decide +kernel
theorem zd_Checker_isJoined_72 : decode zc_Checker_isJoined 72 = .ok (.iaload, 1) := by decide +kernel
theorem zd_Checker_isJoined_73 : decode zc_Checker_isJoined 73 = .ok (.iload_n 1, 1) := by decide +kernel
theorem zd_Checker_isJoined_74 : decode zc_Checker_isJoined 74 = .ok (.invokevirtual 103, 3) := by decide +kernel
theorem zd_Checker_isJoined_77 : decode zc_Checker_isJoined 77 = .ok (.iinc 2 1, 3) := by decide +kernel
theorem zd_Checker_isJoined_80 : decode zc_Checker_isJoined 80 = .ok (.goto (-33), 3) := by decide +kernel
theorem zd_Checker_isJoined_83 : decode zc_Checker_isJoined 83 = .ok (.aload_n 0, 1) := by decide +kernel
theorem zd_Checker_isJoined_84 : decode zc_Checker_isJoined 84 = .ok (.getfield 40, 3) := by decide +kernel
theorem zd_Checker_isJoined_87 : decode zc_Checker_isJoined 87 = .ok (.aload_n 0, 1) := by decide +kernel
theorem zd_Checker_isJoined_88 : decode zc_Checker_isJoined 88 = .ok (.getfield 19, 3) := by decide +kernel
theorem zd_Checker_isJoined_91 : decode zc_Checker_isJoined 91 = .ok (.getfield 106, 3) := by decide +kernel
theorem zd_Checker_isJoined_94 : decode zc_Checker_isJoined 94 = .ok (.iload_n 1, 1) := by decide +kernel
theorem zd_Checker_isJoined_95 : decode zc_Checker_isJoined 95 = .ok (.iaload, 1) := by decide +kernel
theorem zd_Checker_isJoined_96 : decode zc_Checker_isJoined 96 = .ok (.baload, 1) := by decide +kernel
theorem zd_Checker_isJoined_97 : decode zc_Checker_isJoined 97 = .ok (.ireturn, 1) := by decide +kernel
theorem zd_Checker_isJoined_0 : decode zc_Checker_isJoined 0 = .ok (.iconst 0, 1) := by decide +kernel
theorem zd_Checker_isJoined_1 : decode zc_Checker_isJoined 1 = .ok (.istore_n 2, 1) := by decide +kernel
theorem zd_Checker_reachFrom_2 : decode zc_Checker_reachFrom 2 = .ok (.iload_n 3, 1) := by decide +kernel
theorem zd_Checker_reachFrom_3 : decode zc_Checker_reachFrom 3 = .ok (.iconst 4, 1) := by decide +kernel
theorem zd_Checker_reachFrom_4 : decode zc_Checker_reachFrom 4 = .ok (.if_icmp .ge 23, 3) := by decide +kernel
theorem zd_Checker_reachFrom_27 : decode zc_Checker_reachFrom 27 = .ok (.aload_n 0, 1) := by decide +kernel
theorem zd_Checker_reachFrom_28 : decode zc_Checker_reachFrom 28 = .ok (.getfield 23, 3) := by decide +kernel
theorem zd_Checker_reachFrom_31 : decode zc_Checker_reachFrom 31 = .ok (.getfield 86, 3) := by decide +kernel
theorem zd_Checker_reachFrom_34 : decode zc_Checker_reachFrom 34 = .ok (.aload_n 0, 1) := by decide +kernel
theorem zd_Checker_reachFrom_35 : decode zc_Checker_reachFrom 35 = .ok (.getfield 15, 3) := by decide +kernel
theorem zd_Checker_reachFrom_38 : decode zc_Checker_reachFrom 38 = .ok (.iload_n 1, 1) := by decide +kernel
theorem zd_Checker_reachFrom_39 : decode zc_Checker_reachFrom 39 = .ok (.invokevirtual 109, 3) := by decide +kernel
theorem zd_Checker_reachFrom_42 : decode zc_Checker_reachFrom 42 = .ok (.baload, 1) := by decide +kernel
theorem zd_Checker_reachFrom_43 : decode zc_Checker_reachFrom 43 = .ok (.ifCond .eq 17, 3) := by decide +kernel
theorem zd_Checker_reachFrom_46 : decode zc_Checker_reachFrom 46 = .ok (.aload_n 0, 1) := by decide +kernel
theorem zd_Checker_reachFrom_47 : decode zc_Checker_reachFrom 47 = .ok (.aload_n 0, 1) := by decide +kernel
theorem zd_Checker_reachFrom_48 : decode zc_Checker_reachFrom 48 = .ok (.getfield 15, 3) := by decide +kernel
theorem zd_Checker_reachFrom_51 : decode zc_Checker_reachFrom 51 = .ok (.iload_n 1, 1) := by decide +kernel
theorem zd_Checker_reachFrom_52 : decode zc_Checker_reachFrom 52 = .ok (.iconst 4, 1) := by decide +kernel
theorem zd_Checker_reachFrom_53 : decode zc_Checker_reachFrom 53 = .ok (.invokevirtual 76, 3) := by decide +kernel
theorem zd_Checker_reachFrom_56 : decode zc_Checker_reachFrom 56 = .ok (.iload_n 2, 1) := by decide +kernel
theorem zd_Checker_reachFrom_57 : decode zc_Checker_reachFrom 57 = .ok (.invokevirtual 99, 3) := by decide +kernel
theorem zd_Checker_reachFrom_7 : decode zc_Checker_reachFrom 7 = .ok (.aload_n 0, 1) := by decide +kernel
theorem zd_Checker_reachFrom_8 : decode zc_Checker_reachFrom 8 = .ok (.aload_n 0, 1) := by decide +kernel
theorem zd_Checker_reachFrom_9 : decode zc_Checker_reachFrom 9 = .ok (.getfield 15, 3) := by decide +kernel
theorem zd_Checker_reachFrom_12 : decode zc_Checker_reachFrom 12 = .ok (.iload_n 1, 1) := by decide +kernel
theorem zd_Checker_reachFrom_13 : decode zc_Checker_reachFrom 13 = .ok (.iload_n 3, 1) := by decide +kernel
theorem zd_Checker_reachFrom_14 : decode zc_Checker_reachFrom 14 = .ok (.invokevirtual 76, 3) := by decide +kernel
theorem zd_Checker_reachFrom_17 : decode zc_Checker_reachFrom 17 = .ok (.iload_n 2, 1) := by decide +kernel
theorem zd_Checker_reachFrom_18 : decode zc_Checker_reachFrom 18 = .ok (.invokevirtual 99, 3) := by decide +kernel
theorem zd_Checker_reachFrom_21 : decode zc_Checker_reachFrom 21 = .ok (.iinc 3 1, 3) := by decide +kernel
theorem zd_Checker_reachFrom_24 : decode zc_Checker_reachFrom 24 = .ok (.goto (-22), 3) := by decide +kernel
theorem zd_Checker_reachFrom_60 : decode zc_Checker_reachFrom 60 = .ok (.return_, 1) := by decide +kernel
theorem zd_Checker_reachFrom_0 : decode zc_Checker_reachFrom 0 = .ok (.iconst 0, 1) := by decide +kernel
theorem zd_Checker_reachFrom_1 : decode zc_Checker_reachFrom 1 = .ok (.istore_n 3, 1) := by decide +kernel
theorem zd_Checker_reach_54 : decode zc_Checker_reach 54 = .ok (.return_, 1) := by decide +kernel
theorem zd_Checker_reach_0 : decode zc_Checker_reach 0 = .ok (.iload_n 1, 1) := by decide +kernel
theorem zd_Checker_reach_1 : decode zc_Checker_reach 1 = .ok (.iconst (-1), 1) := by decide +kernel
theorem zd_Checker_reach_2 : decode zc_Checker_reach 2 = .ok (.if_icmp .eq 52, 3) := by decide +kernel
theorem zd_Checker_reach_5 : decode zc_Checker_reach 5 = .ok (.aload_n 0, 1) := by decide +kernel
theorem zd_Checker_reach_6 : decode zc_Checker_reach 6 = .ok (.getfield 40, 3) := by decide +kernel
theorem zd_Checker_reach_9 : decode zc_Checker_reach 9 = .ok (.iload_n 1, 1) := by decide +kernel
theorem zd_Checker_reach_10 : decode zc_Checker_reach 10 = .ok (.baload, 1) := by decide +kernel
theorem zd_Checker_reach_11 : decode zc_Checker_reach 11 = .ok (.ifCond .ne 43, 3) := by decide +kernel
theorem zd_Checker_reach_14 : decode zc_Checker_reach 14 = .ok (.aload_n 0, 1) := by decide +kernel
theorem zd_Checker_reach_15 : decode zc_Checker_reach 15 = .ok (.getfield 23, 3) := by decide +kernel
theorem zd_Checker_reach_18 : decode zc_Checker_reach 18 = .ok (.getfield 57, 3) := by decide +kernel
theorem zd_Checker_reach_21 : decode zc_Checker_reach 21 = .ok (.iload_n 1, 1) := by decide +kernel
theorem zd_Checker_reach_22 : decode zc_Checker_reach 22 = .ok (.iaload, 1) := by decide +kernel
theorem zd_Checker_reach_23 : decode zc_Checker_reach 23 = .ok (.iload_n 2, 1) := by decide +kernel

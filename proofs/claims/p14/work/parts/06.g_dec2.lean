theorem zd_Mo_clear_21 : decode zc_Mo_clear 21 = .ok (.getfield 20, 3) := by decide +kernel
theorem zd_Mo_clear_24 : decode zc_Mo_clear 24 = .ok (.aload_n 0, 1) := by decide +kernel
theorem zd_Mo_clear_25 : decode zc_Mo_clear 25 = .ok (.iload_n 2, 1) := by decide +kernel
theorem zd_Mo_clear_26 : decode zc_Mo_clear 26 = .ok (.invokevirtual 90, 3) := by decide +kernel
theorem zd_Mo_clear_29 : decode zc_Mo_clear 29 = .ok (.iconst 0, 1) := by decide +kernel
theorem zd_Mo_clear_30 : decode zc_Mo_clear 30 = .ok (.bastore, 1) := by decide +kernel
theorem zd_Mo_clear_31 : decode zc_Mo_clear 31 = .ok (.iinc 2 1, 3) := by decide +kernel
theorem zd_Mo_clear_34 : decode zc_Mo_clear 34 = .ok (.goto (-32), 3) := by decide +kernel
theorem zd_Mo_clear_39 : decode zc_Mo_clear 39 = .ok (.iload_n 2, 1) := by decide +kernel
theorem zd_Mo_clear_40 : decode zc_Mo_clear 40 = .ok (.aload_n 0, 1) := by decide +kernel
theorem zd_Mo_clear_41 : decode zc_Mo_clear 41 = .ok (.invokevirtual 86, 3) := by decide +kernel
theorem zd_Mo_clear_44 : decode zc_Mo_clear 44 = .ok (.if_icmp .ge 35, 3) := by decide +kernel
theorem zd_Mo_clear_79 : decode zc_Mo_clear 79 = .ok (.aload_n 0, 1) := by decide +kernel
theorem zd_Mo_clear_80 : decode zc_Mo_clear 80 = .ok (.getfield 17, 3) := by decide +kernel
theorem zd_Mo_clear_83 : decode zc_Mo_clear 83 = .ok (.aload_n 0, 1) := by decide +kernel
theorem zd_Mo_clear_84 : decode zc_Mo_clear 84 = .ok (.getfield 35, 3) := by decide +kernel
theorem zd_Mo_clear_87 : decode zc_Mo_clear 87 = .ok (.iload_n 1, 1) := by decide +kernel
theorem zd_Mo_clear_88 : decode zc_Mo_clear 88 = .ok (.iaload, 1) := by decide +kernel
theorem zd_Mo_clear_89 : decode zc_Mo_clear 89 = .ok (.iload_n 1, 1) := by decide +kernel
theorem zd_Mo_clear_90 : decode zc_Mo_clear 90 = .ok (.iastore, 1) := by decide +kernel
theorem zd_Mo_clear_91 : decode zc_Mo_clear 91 = .ok (.aload_n 0, 1) := by decide +kernel
theorem zd_Mo_clear_92 : decode zc_Mo_clear 92 = .ok (.getfield 17, 3) := by decide +kernel
theorem zd_Mo_clear_95 : decode zc_Mo_clear 95 = .ok (.aload_n 0, 1) := by decide +kernel
theorem zd_Mo_clear_96 : decode zc_Mo_clear 96 = .ok (.getfield 38, 3) := by decide +kernel
theorem zd_Mo_clear_99 : decode zc_Mo_clear 99 = .ok (.iload_n 1, 1) := by decide +kernel
theorem zd_Mo_clear_100 : decode zc_Mo_clear 100 = .ok (.iaload, 1) := by decide +kernel
theorem zd_Mo_clear_101 : decode zc_Mo_clear 101 = .ok (.iload_n 1, 1) := by decide +kernel
theorem zd_Mo_clear_102 : decode zc_Mo_clear 102 = .ok (.iastore, 1) := by decide +kernel
theorem zd_Mo_clear_103 : decode zc_Mo_clear 103 = .ok (.return_, 1) := by decide +kernel
theorem zd_Mo_clear_47 : decode zc_Mo_clear 47 = .ok (.aload_n 0, 1) := by decide +kernel
theorem zd_Mo_clear_48 : decode zc_Mo_clear 48 = .ok (.getfield 17, 3) := by decide +kernel
theorem zd_Mo_clear_51 : decode zc_Mo_clear 51 = .ok (.iload_n 2, 1) := by decide +kernel
theorem zd_Mo_clear_52 : decode zc_Mo_clear 52 = .ok (.aload_n 0, 1) := by decide +kernel
theorem zd_Mo_clear_53 : decode zc_Mo_clear 53 = .ok (.getfield 17, 3) := by decide +kernel
theorem zd_Mo_clear_56 : decode zc_Mo_clear 56 = .ok (.iload_n 2, 1) := by decide +kernel
theorem zd_Mo_clear_57 : decode zc_Mo_clear 57 = .ok (.iaload, 1) := by decide +kernel
theorem zd_Mo_clear_58 : decode zc_Mo_clear 58 = .ok (.iload_n 1, 1) := by decide +kernel
theorem zd_Mo_clear_59 : decode zc_Mo_clear 59 = .ok (.if_icmp .ne 7, 3) := by decide +kernel
theorem zd_Mo_clear_66 : decode zc_Mo_clear 66 = .ok (.aload_n 0, 1) := by decide +kernel
theorem zd_Mo_clear_67 : decode zc_Mo_clear 67 = .ok (.getfield 17, 3) := by decide +kernel
theorem zd_Mo_clear_70 : decode zc_Mo_clear 70 = .ok (.iload_n 2, 1) := by decide +kernel
theorem zd_Mo_clear_71 : decode zc_Mo_clear 71 = .ok (.iaload, 1) := by decide +kernel
theorem zd_Mo_clear_62 : decode zc_Mo_clear 62 = .ok (.iconst (-1), 1) := by decide +kernel
theorem zd_Mo_clear_63 : decode zc_Mo_clear 63 = .ok (.goto 9, 3) := by decide +kernel
theorem zd_Mo_clear_72 : decode zc_Mo_clear 72 = .ok (.iastore, 1) := by decide +kernel
theorem zd_Mo_clear_73 : decode zc_Mo_clear 73 = .ok (.iinc 2 1, 3) := by decide +kernel
theorem zd_Mo_clear_76 : decode zc_Mo_clear 76 = .ok (.goto (-37), 3) := by decide +kernel
theorem zd_Mo_clear_0 : decode zc_Mo_clear 0 = .ok (.iconst 0, 1) := by decide +kernel
theorem zd_Mo_clear_1 : decode zc_Mo_clear 1 = .ok (.istore_n 2, 1) := by decide +kernel
theorem zd_Mo_weigh_2 : decode zc_Mo_weigh 2 = .ok (.iload_n 3, 1) := by decide +kernel
theorem zd_Mo_weigh_3 : decode zc_Mo_weigh 3 = .ok (.aload_n 0, 1) := by decide +kernel
theorem zd_Mo_weigh_4 : decode zc_Mo_weigh 4 = .ok (.invokevirtual 86, 3) := by decide +kernel
theorem zd_Mo_weigh_7 : decode zc_Mo_weigh 7 = .ok (.if_icmp .ge 17, 3) := by decide +kernel
theorem zd_Mo_weigh_24 : decode zc_Mo_weigh 24 = .ok (.aload_n 0, 1) := by decide +kernel
theorem zd_Mo_weigh_25 : decode zc_Mo_weigh 25 = .ok (.getfield 23, 3) := by decide +kernel
theorem zd_Mo_weigh_28 : decode zc_Mo_weigh 28 = .ok (.aload_n 0, 1) := by decide +kernel
theorem zd_Mo_weigh_29 : decode zc_Mo_weigh 29 = .ok (.getfield 35, 3) := by decide +kernel
theorem zd_Mo_weigh_32 : decode zc_Mo_weigh 32 = .ok (.iload_n 1, 1) := by decide +kernel
theorem zd_Mo_weigh_33 : decode zc_Mo_weigh 33 = .ok (.iaload, 1) := by decide +kernel
theorem zd_Mo_weigh_34 : decode zc_Mo_weigh 34 = .ok (.iconst 0, 1) := by decide +kernel
theorem zd_Mo_weigh_35 : decode zc_Mo_weigh 35 = .ok (.iastore, 1) := by decide +kernel
theorem zd_Mo_weigh_36 : decode zc_Mo_weigh 36 = .ok (.iconst 1, 1) := by decide +kernel
theorem zd_Mo_weigh_37 : decode zc_Mo_weigh 37 = .ok (.istore_n 3, 1) := by decide +kernel
theorem zd_Mo_weigh_10 : decode zc_Mo_weigh 10 = .ok (.aload_n 0, 1) := by decide +kernel
theorem zd_Mo_weigh_11 : decode zc_Mo_weigh 11 = .ok (.getfield 23, 3) := by decide +kernel
theorem zd_Mo_weigh_14 : decode zc_Mo_weigh 14 = .ok (.iload_n 3, 1) := by decide +kernel
theorem zd_Mo_weigh_15 : decode zc_Mo_weigh 15 = .ok (.ldc 79, 2) := by decide +kernel
theorem zd_Mo_weigh_17 : decode zc_Mo_weigh 17 = .ok (.iastore, 1) := by decide +kernel
theorem zd_Mo_weigh_18 : decode zc_Mo_weigh 18 = .ok (.iinc 3 1, 3) := by decide +kernel
theorem zd_Mo_weigh_21 : decode zc_Mo_weigh 21 = .ok (.goto (-19), 3) := by decide +kernel
theorem zd_Mo_weigh_38 : decode zc_Mo_weigh 38 = .ok (.iload_n 3, 1) := by decide +kernel
theorem zd_Mo_weigh_39 : decode zc_Mo_weigh 39 = .ok (.ifCond .eq 175, 3) := by decide +kernel
theorem zd_Mo_weigh_214 : decode zc_Mo_weigh 214 = .ok (.return_, 1) := by decide +kernel
theorem zd_Mo_weigh_42 : decode zc_Mo_weigh 42 = .ok (.iconst 0, 1) := by decide +kernel
theorem zd_Mo_weigh_43 : decode zc_Mo_weigh 43 = .ok (.istore_n 3, 1) := by decide +kernel
theorem zd_Mo_weigh_44 : decode zc_Mo_weigh 44 = .ok (.iconst 0, 1) := by decide +kernel
theorem zd_Mo_weigh_45 : decode zc_Mo_weigh 45 = .ok (.istore 4, 2) := by decide +kernel
theorem zd_Mo_weigh_47 : decode zc_Mo_weigh 47 = .ok (.iload 4, 2) := by decide +kernel
theorem zd_Mo_weigh_49 : decode zc_Mo_weigh 49 = .ok (.aload_n 0, 1) := by decide +kernel
theorem zd_Mo_weigh_50 : decode zc_Mo_weigh 50 = .ok (.invokevirtual 86, 3) := by decide +kernel
theorem zd_Mo_weigh_53 : decode zc_Mo_weigh 53 = .ok (.if_icmp .ge 158, 3) := by decide +kernel
theorem zd_Mo_weigh_211 : decode zc_Mo_weigh 211 = .ok (.goto (-173), 3) := by decide +kernel
theorem zd_Mo_weigh_56 : decode zc_Mo_weigh 56 = .ok (.iload 4, 2) := by decide +kernel
theorem zd_Mo_weigh_58 : decode zc_Mo_weigh 58 = .ok (.aload_n 0, 1) := by decide +kernel
theorem zd_Mo_weigh_59 : decode zc_Mo_weigh 59 = .ok (.getfield 35, 3) := by decide +kernel
theorem zd_Mo_weigh_62 : decode zc_Mo_weigh 62 = .ok (.iload_n 1, 1) := by decide +kernel
theorem zd_Mo_weigh_63 : decode zc_Mo_weigh 63 = .ok (.iaload, 1) := by decide +kernel
theorem zd_Mo_weigh_64 : decode zc_Mo_weigh 64 = .ok (.if_icmp .ne 8, 3) := by decide +kernel
theorem zd_Mo_weigh_72 : decode zc_Mo_weigh 72 = .ok (.aload_n 0, 1) := by decide +kernel
theorem zd_Mo_weigh_73 : decode zc_Mo_weigh 73 = .ok (.iload 4, 2) := by decide +kernel
theorem zd_Mo_weigh_75 : decode zc_Mo_weigh 75 = .ok (.iload_n 1, 1) := by decide +kernel
theorem zd_Mo_weigh_76 : decode zc_Mo_weigh 76 = .ok (.iload_n 2, 1) := by decide +kernel
theorem zd_Mo_weigh_77 : decode zc_Mo_weigh 77 = .ok (.invokevirtual 94, 3) := by decide +kernel
theorem zd_Mo_weigh_67 : decode zc_Mo_weigh 67 = .ok (.ldc 79, 2) := by decide +kernel
theorem zd_Mo_weigh_69 : decode zc_Mo_weigh 69 = .ok (.goto 11, 3) := by decide +kernel
theorem zd_Mo_weigh_80 : decode zc_Mo_weigh 80 = .ok (.istore 5, 2) := by decide +kernel
theorem zd_Mo_weigh_82 : decode zc_Mo_weigh 82 = .ok (.iconst 0, 1) := by decide +kernel
theorem zd_Mo_weigh_83 : decode zc_Mo_weigh 83 = .ok (.istore 6, 2) := by decide +kernel
theorem zd_Mo_weigh_85 : decode zc_Mo_weigh 85 = .ok (.iload 6, 2) := by decide +kernel
theorem zd_Mo_weigh_87 : decode zc_Mo_weigh 87 = .ok (.iconst 5, 1) := by decide +kernel
theorem zd_Mo_weigh_88 : decode zc_Mo_weigh 88 = .ok (.if_icmp .ge 117, 3) := by decide +kernel
theorem zd_Mo_weigh_91 : decode zc_Mo_weigh 91 = .ok (.iload 5, 2) := by decide +kernel
theorem zd_Mo_weigh_93 : decode zc_Mo_weigh 93 = .ok (.ldc 79, 2) := by decide +kernel
theorem zd_Mo_weigh_95 : decode zc_Mo_weigh 95 = .ok (.if_icmp .ge 110, 3) := by decide +kernel
theorem zd_Mo_weigh_98 : decode zc_Mo_weigh 98 = .ok (.aload_n 0, 1) := by decide +kernel
theorem zd_Mo_weigh_99 : decode zc_Mo_weigh 99 = .ok (.iload 4, 2) := by decide +kernel
theorem zd_Mo_weigh_101 : decode zc_Mo_weigh 101 = .ok (.iload 6, 2) := by decide +kernel
theorem zd_Mo_weigh_103 : decode zc_Mo_weigh 103 = .ok (.invokevirtual 72, 3) := by decide +kernel
theorem zd_Mo_weigh_106 : decode zc_Mo_weigh 106 = .ok (.istore 7, 2) := by decide +kernel
theorem zd_Mo_weigh_108 : decode zc_Mo_weigh 108 = .ok (.iload 7, 2) := by decide +kernel
theorem zd_Mo_weigh_110 : decode zc_Mo_weigh 110 = .ok (.iconst (-1), 1) := by decide +kernel
theorem zd_Mo_weigh_111 : decode zc_Mo_weigh 111 = .ok (.if_icmp .ne 8, 3) := by decide +kernel
theorem zd_Mo_weigh_119 : decode zc_Mo_weigh 119 = .ok (.aload_n 0, 1) := by decide +kernel
theorem zd_Mo_weigh_120 : decode zc_Mo_weigh 120 = .ok (.getfield 23, 3) := by decide +kernel
theorem zd_Mo_weigh_123 : decode zc_Mo_weigh 123 = .ok (.iload 7, 2) := by decide +kernel
theorem zd_Mo_weigh_125 : decode zc_Mo_weigh 125 = .ok (.iaload, 1) := by decide +kernel
theorem zd_Mo_weigh_126 : decode zc_Mo_weigh 126 = .ok (.iload 6, 2) := by decide +kernel
theorem zd_Mo_weigh_128 : decode zc_Mo_weigh 128 = .ok (.iconst 4, 1) := by decide +kernel
theorem zd_Mo_weigh_129 : decode zc_Mo_weigh 129 = .ok (.if_icmp .ne 10, 3) := by decide +kernel
theorem zd_Mo_weigh_139 : decode zc_Mo_weigh 139 = .ok (.iconst 1, 1) := by decide +kernel
theorem zd_Mo_weigh_132 : decode zc_Mo_weigh 132 = .ok (.aload_n 0, 1) := by decide +kernel
theorem zd_Mo_weigh_133 : decode zc_Mo_weigh 133 = .ok (.getfield 51, 3) := by decide +kernel
theorem zd_Mo_weigh_136 : decode zc_Mo_weigh 136 = .ok (.goto 4, 3) := by decide +kernel
theorem zd_Mo_weigh_114 : decode zc_Mo_weigh 114 = .ok (.ldc 79, 2) := by decide +kernel
theorem zd_Mo_weigh_116 : decode zc_Mo_weigh 116 = .ok (.goto 28, 3) := by decide +kernel
theorem zd_Mo_weigh_140 : decode zc_Mo_weigh 140 = .ok (.iadd, 1) := by decide +kernel
theorem zd_Mo_weigh_141 : decode zc_Mo_weigh 141 = .ok (.iload 5, 2) := by decide +kernel
theorem zd_Mo_weigh_143 : decode zc_Mo_weigh 143 = .ok (.iadd, 1) := by decide +kernel
theorem zd_Mo_weigh_144 : decode zc_Mo_weigh 144 = .ok (.istore 8, 2) := by decide +kernel
theorem zd_Mo_weigh_146 : decode zc_Mo_weigh 146 = .ok (.iload_n 3, 1) := by decide +kernel
theorem zd_Mo_weigh_147 : decode zc_Mo_weigh 147 = .ok (.ifCond .ne 15, 3) := by decide +kernel
theorem zd_Mo_weigh_150 : decode zc_Mo_weigh 150 = .ok (.iload 8, 2) := by decide +kernel
theorem zd_Mo_weigh_152 : decode zc_Mo_weigh 152 = .ok (.aload_n 0, 1) := by decide +kernel
theorem zd_Mo_weigh_153 : decode zc_Mo_weigh 153 = .ok (.getfield 23, 3) := by decide +kernel
theorem zd_Mo_weigh_156 : decode zc_Mo_weigh 156 = .ok (.iload 4, 2) := by decide +kernel
theorem zd_Mo_weigh_158 : decode zc_Mo_weigh 158 = .ok (.iaload, 1) := by decide +kernel
theorem zd_Mo_weigh_159 : decode zc_Mo_weigh 159 = .ok (.if_icmp .ge 7, 3) := by decide +kernel
theorem zd_Mo_weigh_166 : decode zc_Mo_weigh 166 = .ok (.iconst 0, 1) := by decide +kernel
theorem zd_Mo_weigh_162 : decode zc_Mo_weigh 162 = .ok (.iconst 1, 1) := by decide +kernel
theorem zd_Mo_weigh_163 : decode zc_Mo_weigh 163 = .ok (.goto 4, 3) := by decide +kernel
theorem zd_Mo_weigh_167 : decode zc_Mo_weigh 167 = .ok (.istore_n 3, 1) := by decide +kernel
theorem zd_Mo_weigh_168 : decode zc_Mo_weigh 168 = .ok (.aload_n 0, 1) := by decide +kernel
theorem zd_Mo_weigh_169 : decode zc_Mo_weigh 169 = .ok (.getfield 23, 3) := by decide +kernel
theorem zd_Mo_weigh_172 : decode zc_Mo_weigh 172 = .ok (.iload 4, 2) := by decide +kernel
theorem zd_Mo_weigh_174 : decode zc_Mo_weigh 174 = .ok (.iload 8, 2) := by decide +kernel
theorem zd_Mo_weigh_176 : decode zc_Mo_weigh 176 = .ok (.aload_n 0, 1) := by decide +kernel
theorem zd_Mo_weigh_177 : decode zc_Mo_weigh 177 = .ok (.getfield 23, 3) := by decide +kernel
theorem zd_Mo_weigh_180 : decode zc_Mo_weigh 180 = .ok (.iload 4, 2) := by decide +kernel
theorem zd_Mo_weigh_182 : decode zc_Mo_weigh 182 = .ok (.iaload, 1) := by decide +kernel
theorem zd_Mo_weigh_183 : decode zc_Mo_weigh 183 = .ok (.if_icmp .ge 8, 3) := by decide +kernel
theorem zd_Mo_weigh_191 : decode zc_Mo_weigh 191 = .ok (.aload_n 0, 1) := by decide +kernel
theorem zd_Mo_weigh_192 : decode zc_Mo_weigh 192 = .ok (.getfield 23, 3) := by decide +kernel
theorem zd_Mo_weigh_195 : decode zc_Mo_weigh 195 = .ok (.iload 4, 2) := by decide +kernel
theorem zd_Mo_weigh_197 : decode zc_Mo_weigh 197 = .ok (.iaload, 1) := by decide +kernel
theorem zd_Mo_weigh_186 : decode zc_Mo_weigh 186 = .ok (.iload 8, 2) := by decide +kernel
theorem zd_Mo_weigh_188 : decode zc_Mo_weigh 188 = .ok (.goto 10, 3) := by decide +kernel
theorem zd_Mo_weigh_198 : decode zc_Mo_weigh 198 = .ok (.iastore, 1) := by decide +kernel
theorem zd_Mo_weigh_199 : decode zc_Mo_weigh 199 = .ok (.iinc 6 1, 3) := by decide +kernel
theorem zd_Mo_weigh_202 : decode zc_Mo_weigh 202 = .ok (.goto (-117), 3) := by decide +kernel
theorem zd_Mo_weigh_205 : decode zc_Mo_weigh 205 = .ok (.iinc 4 1, 3) := by decide +kernel
theorem zd_Mo_weigh_208 : decode zc_Mo_weigh 208 = .ok (.goto (-161), 3) := by decide +kernel
theorem zd_Mo_weigh_0 : decode zc_Mo_weigh 0 = .ok (.iconst 0, 1) := by decide +kernel
theorem zd_Mo_weigh_1 : decode zc_Mo_weigh 1 = .ok (.istore_n 3, 1) := by decide +kernel
theorem zd_Mo_before_12 : decode zc_Mo_before 12 = .ok (.iload 5, 2) := by decide +kernel
theorem zd_Mo_before_14 : decode zc_Mo_before 14 = .ok (.iconst 4, 1) := by decide +kernel
theorem zd_Mo_before_15 : decode zc_Mo_before 15 = .ok (.if_icmp .ge 60, 3) := by decide +kernel
theorem zd_Mo_before_75 : decode zc_Mo_before 75 = .ok (.iconst 4, 1) := by decide +kernel
theorem zd_Mo_before_76 : decode zc_Mo_before 76 = .ok (.ireturn, 1) := by decide +kernel
theorem zd_Mo_before_18 : decode zc_Mo_before 18 = .ok (.aload_n 0, 1) := by decide +kernel
theorem zd_Mo_before_19 : decode zc_Mo_before 19 = .ok (.iload_n 1, 1) := by decide +kernel
theorem zd_Mo_before_20 : decode zc_Mo_before 20 = .ok (.iload 5, 2) := by decide +kernel
theorem zd_Mo_before_22 : decode zc_Mo_before 22 = .ok (.invokevirtual 72, 3) := by decide +kernel
theorem zd_Mo_before_25 : decode zc_Mo_before 25 = .ok (.istore 6, 2) := by decide +kernel
theorem zd_Mo_before_27 : decode zc_Mo_before 27 = .ok (.iload 6, 2) := by decide +kernel
theorem zd_Mo_before_29 : decode zc_Mo_before 29 = .ok (.iconst (-1), 1) := by decide +kernel
theorem zd_Mo_before_30 : decode zc_Mo_before 30 = .ok (.if_icmp .eq 39, 3) := by decide +kernel
theorem zd_Mo_before_33 : decode zc_Mo_before 33 = .ok (.aload_n 0, 1) := by decide +kernel
theorem zd_Mo_before_34 : decode zc_Mo_before 34 = .ok (.getfield 23, 3) := by decide +kernel
theorem zd_Mo_before_37 : decode zc_Mo_before 37 = .ok (.iload 6, 2) := by decide +kernel
theorem zd_Mo_before_39 : decode zc_Mo_before 39 = .ok (.iaload, 1) := by decide +kernel
theorem zd_Mo_before_40 : decode zc_Mo_before 40 = .ok (.ldc 79, 2) := by decide +kernel
theorem zd_Mo_before_42 : decode zc_Mo_before 42 = .ok (.if_icmp .ge 27, 3) := by decide +kernel
theorem zd_Mo_before_45 : decode zc_Mo_before 45 = .ok (.aload_n 0, 1) := by decide +kernel
theorem zd_Mo_before_46 : decode zc_Mo_before 46 = .ok (.getfield 23, 3) := by decide +kernel
theorem zd_Mo_before_49 : decode zc_Mo_before 49 = .ok (.iload 6, 2) := by decide +kernel
theorem zd_Mo_before_51 : decode zc_Mo_before 51 = .ok (.iaload, 1) := by decide +kernel
theorem zd_Mo_before_52 : decode zc_Mo_before 52 = .ok (.iconst 1, 1) := by decide +kernel
theorem zd_Mo_before_53 : decode zc_Mo_before 53 = .ok (.iadd, 1) := by decide +kernel
theorem zd_Mo_before_54 : decode zc_Mo_before 54 = .ok (.iload 4, 2) := by decide +kernel
theorem zd_Mo_before_56 : decode zc_Mo_before 56 = .ok (.iadd, 1) := by decide +kernel
theorem zd_Mo_before_57 : decode zc_Mo_before 57 = .ok (.aload_n 0, 1) := by decide +kernel
theorem zd_Mo_before_58 : decode zc_Mo_before 58 = .ok (.getfield 23, 3) := by decide +kernel
theorem zd_Mo_before_61 : decode zc_Mo_before 61 = .ok (.iload_n 1, 1) := by decide +kernel
theorem zd_Mo_before_62 : decode zc_Mo_before 62 = .ok (.iaload, 1) := by decide +kernel
theorem zd_Mo_before_63 : decode zc_Mo_before 63 = .ok (.if_icmp .ne 6, 3) := by decide +kernel
theorem zd_Mo_before_66 : decode zc_Mo_before 66 = .ok (.iload 5, 2) := by decide +kernel
theorem zd_Mo_before_68 : decode zc_Mo_before 68 = .ok (.ireturn, 1) := by decide +kernel
theorem zd_Mo_before_69 : decode zc_Mo_before 69 = .ok (.iinc 5 1, 3) := by decide +kernel
theorem zd_Mo_before_72 : decode zc_Mo_before 72 = .ok (.goto (-60), 3) := by decide +kernel
theorem zd_Mo_before_0 : decode zc_Mo_before 0 = .ok (.aload_n 0, 1) := by decide +kernel
theorem zd_Mo_before_1 : decode zc_Mo_before 1 = .ok (.iload_n 1, 1) := by decide +kernel
theorem zd_Mo_before_2 : decode zc_Mo_before 2 = .ok (.iload_n 2, 1) := by decide +kernel
theorem zd_Mo_before_3 : decode zc_Mo_before 3 = .ok (.iload_n 3, 1) := by decide +kernel
theorem zd_Mo_before_4 : decode zc_Mo_before 4 = .ok (.invokevirtual 94, 3) := by decide +kernel
theorem zd_Mo_before_7 : decode zc_Mo_before 7 = .ok (.istore 4, 2) := by decide +kernel
theorem zd_Mo_before_9 : decode zc_Mo_before 9 = .ok (.iconst 0, 1) := by decide +kernel
theorem zd_Mo_before_10 : decode zc_Mo_before 10 = .ok (.istore 5, 2) := by decide +kernel
theorem zd_Mo_lay_10 : decode zc_Mo_lay 10 = .ok (.iload 4, 2) := by decide +kernel
theorem zd_Mo_lay_12 : decode zc_Mo_lay 12 = .ok (.aload_n 0, 1) := by decide +kernel
theorem zd_Mo_lay_13 : decode zc_Mo_lay 13 = .ok (.getfield 35, 3) := by decide +kernel
theorem zd_Mo_lay_16 : decode zc_Mo_lay 16 = .ok (.iload_n 1, 1) := by decide +kernel
theorem zd_Mo_lay_17 : decode zc_Mo_lay 17 = .ok (.iaload, 1) := by decide +kernel
theorem zd_Mo_lay_18 : decode zc_Mo_lay 18 = .ok (.if_icmp .eq 54, 3) := by decide +kernel
theorem zd_Mo_lay_72 : decode zc_Mo_lay 72 = .ok (.aload_n 0, 1) := by decide +kernel
theorem zd_Mo_lay_73 : decode zc_Mo_lay 73 = .ok (.getfield 29, 3) := by decide +kernel
theorem zd_Mo_lay_76 : decode zc_Mo_lay 76 = .ok (.iload_n 3, 1) := by decide +kernel
theorem zd_Mo_lay_77 : decode zc_Mo_lay 77 = .ok (.iload 4, 2) := by decide +kernel
theorem zd_Mo_lay_79 : decode zc_Mo_lay 79 = .ok (.iastore, 1) := by decide +kernel
theorem zd_Mo_lay_80 : decode zc_Mo_lay 80 = .ok (.aload_n 0, 1) := by decide +kernel
theorem zd_Mo_lay_81 : decode zc_Mo_lay 81 = .ok (.getfield 32, 3) := by decide +kernel
theorem zd_Mo_lay_84 : decode zc_Mo_lay 84 = .ok (.iload_n 3, 1) := by decide +kernel
theorem zd_Mo_lay_85 : decode zc_Mo_lay 85 = .ok (.iconst 0, 1) := by decide +kernel
theorem zd_Mo_lay_86 : decode zc_Mo_lay 86 = .ok (.bastore, 1) := by decide +kernel
theorem zd_Mo_lay_87 : decode zc_Mo_lay 87 = .ok (.iconst 0, 1) := by decide +kernel
theorem zd_Mo_lay_88 : decode zc_Mo_lay 88 = .ok (.istore 5, 2) := by decide +kernel
theorem zd_Mo_lay_21 : decode zc_Mo_lay 21 = .ok (.aload_n 0, 1) := by decide +kernel
theorem zd_Mo_lay_22 : decode zc_Mo_lay 22 = .ok (.iload 4, 2) := by decide +kernel
theorem zd_Mo_lay_24 : decode zc_Mo_lay 24 = .ok (.iload_n 1, 1) := by decide +kernel
theorem zd_Mo_lay_25 : decode zc_Mo_lay 25 = .ok (.iload_n 2, 1) := by decide +kernel
theorem zd_Mo_lay_26 : decode zc_Mo_lay 26 = .ok (.invokevirtual 98, 3) := by decide +kernel
theorem zd_Mo_lay_29 : decode zc_Mo_lay 29 = .ok (.istore 5, 2) := by decide +kernel
theorem zd_Mo_lay_31 : decode zc_Mo_lay 31 = .ok (.aload_n 0, 1) := by decide +kernel
theorem zd_Mo_lay_32 : decode zc_Mo_lay 32 = .ok (.getfield 29, 3) := by decide +kernel
theorem zd_Mo_lay_35 : decode zc_Mo_lay 35 = .ok (.iload_n 3, 1) := by decide +kernel
theorem zd_Mo_lay_36 : decode zc_Mo_lay 36 = .ok (.iload 4, 2) := by decide +kernel
theorem zd_Mo_lay_38 : decode zc_Mo_lay 38 = .ok (.iastore, 1) := by decide +kernel
theorem zd_Mo_lay_39 : decode zc_Mo_lay 39 = .ok (.aload_n 0, 1) := by decide +kernel
theorem zd_Mo_lay_40 : decode zc_Mo_lay 40 = .ok (.getfield 32, 3) := by decide +kernel
theorem zd_Mo_lay_43 : decode zc_Mo_lay 43 = .ok (.iload_n 3, 1) := by decide +kernel
theorem zd_Mo_lay_44 : decode zc_Mo_lay 44 = .ok (.iload 5, 2) := by decide +kernel
theorem zd_Mo_lay_46 : decode zc_Mo_lay 46 = .ok (.iconst 4, 1) := by decide +kernel
theorem zd_Mo_lay_47 : decode zc_Mo_lay 47 = .ok (.if_icmp .ne 7, 3) := by decide +kernel
theorem zd_Mo_lay_54 : decode zc_Mo_lay 54 = .ok (.iconst 0, 1) := by decide +kernel
theorem zd_Mo_lay_50 : decode zc_Mo_lay 50 = .ok (.iconst 1, 1) := by decide +kernel
theorem zd_Mo_lay_51 : decode zc_Mo_lay 51 = .ok (.goto 4, 3) := by decide +kernel
theorem zd_Mo_lay_55 : decode zc_Mo_lay 55 = .ok (.bastore, 1) := by decide +kernel
theorem zd_Mo_lay_56 : decode zc_Mo_lay 56 = .ok (.iinc 3 1, 3) := by decide +kernel
theorem zd_Mo_lay_59 : decode zc_Mo_lay 59 = .ok (.aload_n 0, 1) := by decide +kernel
theorem zd_Mo_lay_60 : decode zc_Mo_lay 60 = .ok (.iload 4, 2) := by decide +kernel
theorem zd_Mo_lay_62 : decode zc_Mo_lay 62 = .ok (.iload 5, 2) := by decide +kernel
theorem zd_Mo_lay_64 : decode zc_Mo_lay 64 = .ok (.invokevirtual 72, 3) := by decide +kernel
theorem zd_Mo_lay_67 : decode zc_Mo_lay 67 = .ok (.istore 4, 2) := by decide +kernel
theorem zd_Mo_lay_69 : decode zc_Mo_lay 69 = .ok (.goto (-59), 3) := by decide +kernel
theorem zd_Mo_lay_90 : decode zc_Mo_lay 90 = .ok (.iload 5, 2) := by decide +kernel
theorem zd_Mo_lay_92 : decode zc_Mo_lay 92 = .ok (.iload_n 3, 1) := by decide +kernel
theorem zd_Mo_lay_93 : decode zc_Mo_lay 93 = .ok (.if_icmp .gt 25, 3) := by decide +kernel
theorem zd_Mo_lay_96 : decode zc_Mo_lay 96 = .ok (.iload_n 2, 1) := by decide +kernel
theorem zd_Mo_lay_97 : decode zc_Mo_lay 97 = .ok (.ifCond .eq 21, 3) := by decide +kernel
theorem zd_Mo_lay_100 : decode zc_Mo_lay 100 = .ok (.aload_n 0, 1) := by decide +kernel
theorem zd_Mo_lay_101 : decode zc_Mo_lay 101 = .ok (.aload_n 0, 1) := by decide +kernel
theorem zd_Mo_lay_102 : decode zc_Mo_lay 102 = .ok (.getfield 29, 3) := by decide +kernel
theorem zd_Mo_lay_105 : decode zc_Mo_lay 105 = .ok (.iload 5, 2) := by decide +kernel
theorem zd_Mo_lay_107 : decode zc_Mo_lay 107 = .ok (.iaload, 1) := by decide +kernel
theorem zd_Mo_lay_108 : decode zc_Mo_lay 108 = .ok (.iload_n 1, 1) := by decide +kernel
theorem zd_Mo_lay_109 : decode zc_Mo_lay 109 = .ok (.invokevirtual 101, 3) := by decide +kernel
theorem zd_Mo_lay_112 : decode zc_Mo_lay 112 = .ok (.iinc 5 1, 3) := by decide +kernel
theorem zd_Mo_lay_115 : decode zc_Mo_lay 115 = .ok (.goto (-25), 3) := by decide +kernel
theorem zd_Mo_lay_118 : decode zc_Mo_lay 118 = .ok (.iconst 0, 1) := by decide +kernel
theorem zd_Mo_lay_119 : decode zc_Mo_lay 119 = .ok (.istore 5, 2) := by decide +kernel
theorem zd_Mo_lay_121 : decode zc_Mo_lay 121 = .ok (.iload 5, 2) := by decide +kernel
theorem zd_Mo_lay_123 : decode zc_Mo_lay 123 = .ok (.iload_n 3, 1) := by decide +kernel
theorem zd_Mo_lay_124 : decode zc_Mo_lay 124 = .ok (.if_icmp .gt 49, 3) := by decide +kernel
theorem zd_Mo_lay_173 : decode zc_Mo_lay 173 = .ok (.return_, 1) := by decide +kernel
theorem zd_Mo_lay_127 : decode zc_Mo_lay 127 = .ok (.aload_n 0, 1) := by decide +kernel
theorem zd_Mo_lay_128 : decode zc_Mo_lay 128 = .ok (.getfield 17, 3) := by decide +kernel
theorem zd_Mo_lay_131 : decode zc_Mo_lay 131 = .ok (.aload_n 0, 1) := by decide +kernel
theorem zd_Mo_lay_132 : decode zc_Mo_lay 132 = .ok (.getfield 29, 3) := by decide +kernel
theorem zd_Mo_lay_135 : decode zc_Mo_lay 135 = .ok (.iload 5, 2) := by decide +kernel
theorem zd_Mo_lay_137 : decode zc_Mo_lay 137 = .ok (.iaload, 1) := by decide +kernel
theorem zd_Mo_lay_138 : decode zc_Mo_lay 138 = .ok (.iload_n 1, 1) := by decide +kernel
theorem zd_Mo_lay_139 : decode zc_Mo_lay 139 = .ok (.iastore, 1) := by decide +kernel
theorem zd_Mo_lay_140 : decode zc_Mo_lay 140 = .ok (.aload_n 0, 1) := by decide +kernel
theorem zd_Mo_lay_141 : decode zc_Mo_lay 141 = .ok (.getfield 32, 3) := by decide +kernel
theorem zd_Mo_lay_144 : decode zc_Mo_lay 144 = .ok (.iload 5, 2) := by decide +kernel
theorem zd_Mo_lay_146 : decode zc_Mo_lay 146 = .ok (.baload, 1) := by decide +kernel
theorem zd_Mo_lay_147 : decode zc_Mo_lay 147 = .ok (.ifCond .eq 20, 3) := by decide +kernel
theorem zd_Mo_lay_150 : decode zc_Mo_lay 150 = .ok (.aload_n 0, 1) := by decide +kernel
theorem zd_Mo_lay_151 : decode zc_Mo_lay 151 = .ok (.getfield 20, 3) := by decide +kernel
theorem zd_Mo_lay_154 : decode zc_Mo_lay 154 = .ok (.aload_n 0, 1) := by decide +kernel
theorem zd_Mo_lay_155 : decode zc_Mo_lay 155 = .ok (.aload_n 0, 1) := by decide +kernel
theorem zd_Mo_lay_156 : decode zc_Mo_lay 156 = .ok (.getfield 29, 3) := by decide +kernel
theorem zd_Mo_lay_159 : decode zc_Mo_lay 159 = .ok (.iload 5, 2) := by decide +kernel
theorem zd_Mo_lay_161 : decode zc_Mo_lay 161 = .ok (.iaload, 1) := by decide +kernel
theorem zd_Mo_lay_162 : decode zc_Mo_lay 162 = .ok (.invokevirtual 90, 3) := by decide +kernel
theorem zd_Mo_lay_165 : decode zc_Mo_lay 165 = .ok (.iconst 1, 1) := by decide +kernel
theorem zd_Mo_lay_166 : decode zc_Mo_lay 166 = .ok (.bastore, 1) := by decide +kernel
theorem zd_Mo_lay_167 : decode zc_Mo_lay 167 = .ok (.iinc 5 1, 3) := by decide +kernel
theorem zd_Mo_lay_170 : decode zc_Mo_lay 170 = .ok (.goto (-49), 3) := by decide +kernel
theorem zd_Mo_lay_0 : decode zc_Mo_lay 0 = .ok (.iconst 0, 1) := by decide +kernel
theorem zd_Mo_lay_1 : decode zc_Mo_lay 1 = .ok (.istore_n 3, 1) := by decide +kernel
theorem zd_Mo_lay_2 : decode zc_Mo_lay 2 = .ok (.aload_n 0, 1) := by decide +kernel
theorem zd_Mo_lay_3 : decode zc_Mo_lay 3 = .ok (.getfield 38, 3) := by decide +kernel
theorem zd_Mo_lay_6 : decode zc_Mo_lay 6 = .ok (.iload_n 1, 1) := by decide +kernel
theorem zd_Mo_lay_7 : decode zc_Mo_lay 7 = .ok (.iaload, 1) := by decide +kernel
theorem zd_Mo_lay_8 : decode zc_Mo_lay 8 = .ok (.istore 4, 2) := by decide +kernel
theorem zd_Mo_pushOut_13 : decode zc_Mo_pushOut 13 = .ok (.iload_n 3, 1) := by decide +kernel
theorem zd_Mo_pushOut_14 : decode zc_Mo_pushOut 14 = .ok (.iconst 4, 1) := by decide +kernel
theorem zd_Mo_pushOut_15 : decode zc_Mo_pushOut 15 = .ok (.if_icmp .ge 42, 3) := by decide +kernel
theorem zd_Mo_pushOut_18 : decode zc_Mo_pushOut 18 = .ok (.aload_n 0, 1) := by decide +kernel
theorem zd_Mo_pushOut_19 : decode zc_Mo_pushOut 19 = .ok (.getfield 54, 3) := by decide +kernel
theorem zd_Mo_pushOut_22 : decode zc_Mo_pushOut 22 = .ok (.ifCond .eq 35, 3) := by decide +kernel
theorem zd_Mo_pushOut_25 : decode zc_Mo_pushOut 25 = .ok (.aload_n 0, 1) := by decide +kernel
theorem zd_Mo_pushOut_26 : decode zc_Mo_pushOut 26 = .ok (.iload_n 1, 1) := by decide +kernel
theorem zd_Mo_pushOut_27 : decode zc_Mo_pushOut 27 = .ok (.iload_n 3, 1) := by decide +kernel
theorem zd_Mo_pushOut_28 : decode zc_Mo_pushOut 28 = .ok (.invokevirtual 72, 3) := by decide +kernel
theorem zd_Mo_pushOut_31 : decode zc_Mo_pushOut 31 = .ok (.istore 4, 2) := by decide +kernel
theorem zd_Mo_pushOut_33 : decode zc_Mo_pushOut 33 = .ok (.iload 4, 2) := by decide +kernel
theorem zd_Mo_pushOut_35 : decode zc_Mo_pushOut 35 = .ok (.iconst (-1), 1) := by decide +kernel
theorem zd_Mo_pushOut_36 : decode zc_Mo_pushOut 36 = .ok (.if_icmp .eq 15, 3) := by decide +kernel
theorem zd_Mo_pushOut_39 : decode zc_Mo_pushOut 39 = .ok (.aload_n 0, 1) := by decide +kernel
theorem zd_Mo_pushOut_40 : decode zc_Mo_pushOut 40 = .ok (.aload_n 0, 1) := by decide +kernel
theorem zd_Mo_pushOut_41 : decode zc_Mo_pushOut 41 = .ok (.getfield 17, 3) := by decide +kernel
theorem zd_Mo_pushOut_44 : decode zc_Mo_pushOut 44 = .ok (.iload 4, 2) := by decide +kernel
theorem zd_Mo_pushOut_46 : decode zc_Mo_pushOut 46 = .ok (.iaload, 1) := by decide +kernel
theorem zd_Mo_pushOut_47 : decode zc_Mo_pushOut 47 = .ok (.iload_n 2, 1) := by decide +kernel
theorem zd_Mo_pushOut_48 : decode zc_Mo_pushOut 48 = .ok (.invokevirtual 105, 3) := by decide +kernel
theorem zd_Mo_pushOut_51 : decode zc_Mo_pushOut 51 = .ok (.iinc 3 1, 3) := by decide +kernel
theorem zd_Mo_pushOut_54 : decode zc_Mo_pushOut 54 = .ok (.goto (-41), 3) := by decide +kernel
theorem zd_Mo_pushOut_57 : decode zc_Mo_pushOut 57 = .ok (.return_, 1) := by decide +kernel
theorem zd_Mo_pushOut_0 : decode zc_Mo_pushOut 0 = .ok (.aload_n 0, 1) := by decide +kernel
theorem zd_Mo_pushOut_1 : decode zc_Mo_pushOut 1 = .ok (.aload_n 0, 1) := by decide +kernel
theorem zd_Mo_pushOut_2 : decode zc_Mo_pushOut 2 = .ok (.getfield 17, 3) := by decide +kernel
theorem zd_Mo_pushOut_5 : decode zc_Mo_pushOut 5 = .ok (.iload_n 1, 1) := by decide +kernel
theorem zd_Mo_pushOut_6 : decode zc_Mo_pushOut 6 = .ok (.iaload, 1) := by decide +kernel
theorem zd_Mo_pushOut_7 : decode zc_Mo_pushOut 7 = .ok (.iload_n 2, 1) := by decide +kernel
theorem zd_Mo_pushOut_8 : decode zc_Mo_pushOut 8 = .ok (.invokevirtual 105, 3) := by decide +kernel
theorem zd_Mo_pushOut_11 : decode zc_Mo_pushOut 11 = .ok (.iconst 0, 1) := by decide +kernel
theorem zd_Mo_pushOut_12 : decode zc_Mo_pushOut 12 = .ok (.istore_n 3, 1) := by decide +kernel
theorem zd_Mo_leave_0 : decode zc_Mo_leave 0 = .ok (.iload_n 1, 1) := by decide +kernel
theorem zd_Mo_leave_1 : decode zc_Mo_leave 1 = .ok (.iload_n 2, 1) := by decide +kernel
theorem zd_Mo_leave_2 : decode zc_Mo_leave 2 = .ok (.invokestatic 69, 3) := by decide +kernel
theorem zd_Mo_leave_5 : decode zc_Mo_leave 5 = .ok (.ifCond .ne 4, 3) := by decide +kernel
theorem zd_Mo_leave_9 : decode zc_Mo_leave 9 = .ok (.aload_n 0, 1) := by decide +kernel
theorem zd_Mo_leave_10 : decode zc_Mo_leave 10 = .ok (.iload_n 1, 1) := by decide +kernel
theorem zd_Mo_leave_11 : decode zc_Mo_leave 11 = .ok (.invokevirtual 108, 3) := by decide +kernel
theorem zd_Mo_leave_14 : decode zc_Mo_leave 14 = .ok (.aload_n 0, 1) := by decide +kernel
theorem zd_Mo_leave_15 : decode zc_Mo_leave 15 = .ok (.dup, 1) := by decide +kernel
theorem zd_Mo_leave_16 : decode zc_Mo_leave 16 = .ok (.getfield 112, 3) := by decide +kernel
theorem zd_Mo_leave_19 : decode zc_Mo_leave 19 = .ok (.iconst 1, 1) := by decide +kernel
theorem zd_Mo_leave_20 : decode zc_Mo_leave 20 = .ok (.iload_n 1, 1) := by decide +kernel
theorem zd_Mo_leave_21 : decode zc_Mo_leave 21 = .ok (.ishl, 1) := by decide +kernel
theorem zd_Mo_leave_22 : decode zc_Mo_leave 22 = .ok (.ior, 1) := by decide +kernel
theorem zd_Mo_leave_23 : decode zc_Mo_leave 23 = .ok (.putfield 112, 3) := by decide +kernel
theorem zd_Mo_leave_26 : decode zc_Mo_leave 26 = .ok (.return_, 1) := by decide +kernel
theorem zd_Mo_leave_8 : decode zc_Mo_leave 8 = .ok (.return_, 1) := by decide +kernel
theorem zd_Mo_find_0 : decode zc_Mo_find 0 = .ok (.aload_n 0, 1) := by decide +kernel
theorem zd_Mo_find_1 : decode zc_Mo_find 1 = .ok (.iload_n 1, 1) := by decide +kernel
theorem zd_Mo_find_2 : decode zc_Mo_find 2 = .ok (.invokevirtual 108, 3) := by decide +kernel
theorem zd_Mo_find_5 : decode zc_Mo_find 5 = .ok (.aload_n 0, 1) := by decide +kernel
theorem zd_Mo_find_6 : decode zc_Mo_find 6 = .ok (.iload_n 1, 1) := by decide +kernel
theorem zd_Mo_find_7 : decode zc_Mo_find 7 = .ok (.iload_n 2, 1) := by decide +kernel
theorem zd_Mo_find_8 : decode zc_Mo_find 8 = .ok (.invokevirtual 115, 3) := by decide +kernel
theorem zd_Mo_find_11 : decode zc_Mo_find 11 = .ok (.aload_n 0, 1) := by decide +kernel
theorem zd_Mo_find_12 : decode zc_Mo_find 12 = .ok (.getfield 23, 3) := by decide +kernel
theorem zd_Mo_find_15 : decode zc_Mo_find 15 = .ok (.aload_n 0, 1) := by decide +kernel
theorem zd_Mo_find_16 : decode zc_Mo_find 16 = .ok (.getfield 38, 3) := by decide +kernel
theorem zd_Mo_find_19 : decode zc_Mo_find 19 = .ok (.iload_n 1, 1) := by decide +kernel
theorem zd_Mo_find_20 : decode zc_Mo_find 20 = .ok (.iaload, 1) := by decide +kernel
theorem zd_Mo_find_21 : decode zc_Mo_find 21 = .ok (.iaload, 1) := by decide +kernel
theorem zd_Mo_find_22 : decode zc_Mo_find 22 = .ok (.istore_n 3, 1) := by decide +kernel
theorem zd_Mo_find_23 : decode zc_Mo_find 23 = .ok (.iload_n 3, 1) := by decide +kernel
theorem zd_Mo_find_24 : decode zc_Mo_find 24 = .ok (.ldc 79, 2) := by decide +kernel
theorem zd_Mo_find_26 : decode zc_Mo_find 26 = .ok (.if_icmp .lt 5, 3) := by decide +kernel
theorem zd_Mo_find_31 : decode zc_Mo_find 31 = .ok (.aload_n 0, 1) := by decide +kernel
theorem zd_Mo_find_32 : decode zc_Mo_find 32 = .ok (.iload_n 1, 1) := by decide +kernel
theorem zd_Mo_find_33 : decode zc_Mo_find 33 = .ok (.iload_n 2, 1) := by decide +kernel
theorem zd_Mo_find_34 : decode zc_Mo_find 34 = .ok (.invokevirtual 119, 3) := by decide +kernel
theorem zd_Mo_find_37 : decode zc_Mo_find 37 = .ok (.iload_n 3, 1) := by decide +kernel
theorem zd_Mo_find_38 : decode zc_Mo_find 38 = .ok (.ireturn, 1) := by decide +kernel
theorem zd_Mo_find_29 : decode zc_Mo_find 29 = .ok (.iconst (-1), 1) := by decide +kernel
theorem zd_Mo_find_30 : decode zc_Mo_find 30 = .ok (.ireturn, 1) := by decide +kernel
theorem zd_Mo_route_14 : decode zc_Mo_route 14 = .ok (.putfield 58, 3) := by decide +kernel
theorem zd_Mo_route_17 : decode zc_Mo_route 17 = .ok (.aload_n 0, 1) := by decide +kernel
theorem zd_Mo_route_18 : decode zc_Mo_route 18 = .ok (.getfield 58, 3) := by decide +kernel
theorem zd_Mo_route_21 : decode zc_Mo_route 21 = .ok (.ifCond .ne 12, 3) := by decide +kernel
theorem zd_Mo_route_33 : decode zc_Mo_route 33 = .ok (.iconst 0, 1) := by decide +kernel
theorem zd_Mo_route_24 : decode zc_Mo_route 24 = .ok (.aload_n 0, 1) := by decide +kernel
theorem zd_Mo_route_25 : decode zc_Mo_route 25 = .ok (.iload_n 1, 1) := by decide +kernel
theorem zd_Mo_route_26 : decode zc_Mo_route 26 = .ok (.iconst 0, 1) := by decide +kernel
theorem zd_Mo_route_27 : decode zc_Mo_route 27 = .ok (.invokevirtual 126, 3) := by decide +kernel
theorem zd_Mo_route_30 : decode zc_Mo_route 30 = .ok (.goto 4, 3) := by decide +kernel
theorem zd_Mo_route_34 : decode zc_Mo_route 34 = .ok (.ireturn, 1) := by decide +kernel
theorem zd_Mo_route_0 : decode zc_Mo_route 0 = .ok (.aload_n 0, 1) := by decide +kernel
theorem zd_Mo_route_1 : decode zc_Mo_route 1 = .ok (.aload_n 0, 1) := by decide +kernel
theorem zd_Mo_route_2 : decode zc_Mo_route 2 = .ok (.iload_n 1, 1) := by decide +kernel
theorem zd_Mo_route_3 : decode zc_Mo_route 3 = .ok (.invokevirtual 122, 3) := by decide +kernel
theorem zd_Mo_route_6 : decode zc_Mo_route 6 = .ok (.ifCond .eq 7, 3) := by decide +kernel
theorem zd_Mo_route_13 : decode zc_Mo_route 13 = .ok (.iconst 1, 1) := by decide +kernel
theorem zd_Mo_route_9 : decode zc_Mo_route 9 = .ok (.iconst 0, 1) := by decide +kernel
theorem zd_Mo_route_10 : decode zc_Mo_route 10 = .ok (.goto 4, 3) := by decide +kernel

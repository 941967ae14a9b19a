theorem zd_Gr_block_86 : decode zc_Gr_block 86 = .ok (.bastore, 1) := by decide +kernel
theorem zd_Gr_block_87 : decode zc_Gr_block 87 = .ok (.aload_n 0, 1) := by decide +kernel
theorem zd_Gr_block_88 : decode zc_Gr_block 88 = .ok (.getfield 41, 3) := by decide +kernel
theorem zd_Gr_block_91 : decode zc_Gr_block 91 = .ok (.getfield 96, 3) := by decide +kernel
theorem zd_Gr_block_94 : decode zc_Gr_block 94 = .ok (.iload 4, 2) := by decide +kernel
theorem zd_Gr_block_96 : decode zc_Gr_block 96 = .ok (.baload, 1) := by decide +kernel
theorem zd_Gr_block_97 : decode zc_Gr_block 97 = .ok (.ireturn, 1) := by decide +kernel
theorem zd_Gr_block_0 : decode zc_Gr_block 0 = .ok (.aload_n 0, 1) := by decide +kernel
theorem zd_Gr_block_1 : decode zc_Gr_block 1 = .ok (.getfield 12, 3) := by decide +kernel
theorem zd_Gr_block_4 : decode zc_Gr_block 4 = .ok (.iload_n 1, 1) := by decide +kernel
theorem zd_Gr_block_5 : decode zc_Gr_block 5 = .ok (.iload_n 2, 1) := by decide +kernel
theorem zd_Gr_block_6 : decode zc_Gr_block 6 = .ok (.iload_n 3, 1) := by decide +kernel
theorem zd_Gr_block_7 : decode zc_Gr_block 7 = .ok (.invokevirtual 72, 3) := by decide +kernel
theorem zd_Gr_block_10 : decode zc_Gr_block 10 = .ok (.ifCond .ne 13, 3) := by decide +kernel
theorem zd_Gr_block_23 : decode zc_Gr_block 23 = .ok (.aload_n 0, 1) := by decide +kernel
theorem zd_Gr_block_24 : decode zc_Gr_block 24 = .ok (.getfield 12, 3) := by decide +kernel
theorem zd_Gr_block_27 : decode zc_Gr_block 27 = .ok (.iload_n 1, 1) := by decide +kernel
theorem zd_Gr_block_28 : decode zc_Gr_block 28 = .ok (.iload_n 2, 1) := by decide +kernel
theorem zd_Gr_block_29 : decode zc_Gr_block 29 = .ok (.iload_n 3, 1) := by decide +kernel
theorem zd_Gr_block_30 : decode zc_Gr_block 30 = .ok (.invokevirtual 83, 3) := by decide +kernel
theorem zd_Gr_block_33 : decode zc_Gr_block 33 = .ok (.istore 4, 2) := by decide +kernel
theorem zd_Gr_block_35 : decode zc_Gr_block 35 = .ok (.aload_n 0, 1) := by decide +kernel
theorem zd_Gr_block_36 : decode zc_Gr_block 36 = .ok (.getfield 23, 3) := by decide +kernel
theorem zd_Gr_block_39 : decode zc_Gr_block 39 = .ok (.getfield 87, 3) := by decide +kernel
theorem zd_Gr_block_42 : decode zc_Gr_block 42 = .ok (.iload 4, 2) := by decide +kernel
theorem zd_Gr_block_44 : decode zc_Gr_block 44 = .ok (.iaload, 1) := by decide +kernel
theorem zd_Gr_block_45 : decode zc_Gr_block 45 = .ok (.iconst (-1), 1) := by decide +kernel
theorem zd_Gr_block_46 : decode zc_Gr_block 46 = .ok (.if_icmp .eq 13, 3) := by decide +kernel
theorem zd_Gr_block_59 : decode zc_Gr_block 59 = .ok (.aload_n 0, 1) := by decide +kernel
theorem zd_Gr_block_60 : decode zc_Gr_block 60 = .ok (.getfield 41, 3) := by decide +kernel
theorem zd_Gr_block_63 : decode zc_Gr_block 63 = .ok (.getfield 96, 3) := by decide +kernel
theorem zd_Gr_block_66 : decode zc_Gr_block 66 = .ok (.iload 4, 2) := by decide +kernel
theorem zd_Gr_block_68 : decode zc_Gr_block 68 = .ok (.aload_n 0, 1) := by decide +kernel
theorem zd_Gr_block_69 : decode zc_Gr_block 69 = .ok (.getfield 41, 3) := by decide +kernel
theorem zd_Gr_block_72 : decode zc_Gr_block 72 = .ok (.getfield 96, 3) := by decide +kernel
theorem zd_Gr_block_75 : decode zc_Gr_block 75 = .ok (.iload 4, 2) := by decide +kernel
theorem zd_Gr_block_77 : decode zc_Gr_block 77 = .ok (.baload, 1) := by decide +kernel
theorem zd_Gr_block_78 : decode zc_Gr_block 78 = .ok (.ifCond .ne 7, 3) := by decide +kernel
theorem zd_Gr_block_85 : decode zc_Gr_block 85 = .ok (.iconst 0, 1) := by decide +kernel
theorem zd_Gr_block_81 : decode zc_Gr_block 81 = .ok (.iconst 1, 1) := by decide +kernel
theorem zd_Gr_block_82 : decode zc_Gr_block 82 = .ok (.goto 4, 3) := by decide +kernel
theorem zd_Gr_block_49 : decode zc_Gr_block 49 = .ok (.new 91, 3) := by decide +kernel
theorem zd_Gr_block_52 : decode zc_Gr_block 52 = .ok (.dup, 1) := by decide +kernel
theorem zd_Gr_block_53 : decode zc_Gr_block 53 = .ok (.ldc 93, 2) := by decide +kernel
theorem zd_Gr_block_55 : decode zc_Gr_block 55 = .ok (.invokespecial 95, 3) := by decide +kernel
theorem zd_Gr_block_58 : decode zc_Gr_block 58 = .ok (.athrow, 1) := by decide +kernel
theorem zd_Gr_block_13 : decode zc_Gr_block 13 = .ok (.new 76, 3) := by decide +kernel
theorem zd_Gr_block_16 : decode zc_Gr_block 16 = .ok (.dup, 1) := by decide +kernel
theorem zd_Gr_block_17 : decode zc_Gr_block 17 = .ok (.ldc 78, 2) := by decide +kernel
theorem zd_Gr_block_19 : decode zc_Gr_block 19 = .ok (.invokespecial 80, 3) := by decide +kernel
theorem zd_Gr_block_22 : decode zc_Gr_block 22 = .ok (.athrow, 1) := by decide +kernel
theorem zd_Gr_net_0 : decode zc_Gr_net 0 = .ok (.aload_n 0, 1) := by decide +kernel
theorem zd_Gr_net_1 : decode zc_Gr_net 1 = .ok (.getfield 12, 3) := by decide +kernel
theorem zd_Gr_net_4 : decode zc_Gr_net 4 = .ok (.iload_n 1, 1) := by decide +kernel
theorem zd_Gr_net_5 : decode zc_Gr_net 5 = .ok (.iload_n 2, 1) := by decide +kernel
theorem zd_Gr_net_6 : decode zc_Gr_net 6 = .ok (.iload_n 3, 1) := by decide +kernel
theorem zd_Gr_net_7 : decode zc_Gr_net 7 = .ok (.invokevirtual 72, 3) := by decide +kernel
theorem zd_Gr_net_10 : decode zc_Gr_net 10 = .ok (.ifCond .eq 19, 3) := by decide +kernel
theorem zd_Gr_net_13 : decode zc_Gr_net 13 = .ok (.aload_n 0, 1) := by decide +kernel
theorem zd_Gr_net_14 : decode zc_Gr_net 14 = .ok (.getfield 12, 3) := by decide +kernel
theorem zd_Gr_net_17 : decode zc_Gr_net 17 = .ok (.iload 4, 2) := by decide +kernel
theorem zd_Gr_net_19 : decode zc_Gr_net 19 = .ok (.iload 5, 2) := by decide +kernel
theorem zd_Gr_net_21 : decode zc_Gr_net 21 = .ok (.iload 6, 2) := by decide +kernel
theorem zd_Gr_net_23 : decode zc_Gr_net 23 = .ok (.invokevirtual 72, 3) := by decide +kernel
theorem zd_Gr_net_26 : decode zc_Gr_net 26 = .ok (.ifCond .ne 13, 3) := by decide +kernel
theorem zd_Gr_net_39 : decode zc_Gr_net 39 = .ok (.aload_n 0, 1) := by decide +kernel
theorem zd_Gr_net_40 : decode zc_Gr_net 40 = .ok (.getfield 12, 3) := by decide +kernel
theorem zd_Gr_net_43 : decode zc_Gr_net 43 = .ok (.iload_n 1, 1) := by decide +kernel
theorem zd_Gr_net_44 : decode zc_Gr_net 44 = .ok (.iload_n 2, 1) := by decide +kernel
theorem zd_Gr_net_45 : decode zc_Gr_net 45 = .ok (.iload_n 3, 1) := by decide +kernel
theorem zd_Gr_net_46 : decode zc_Gr_net 46 = .ok (.invokevirtual 83, 3) := by decide +kernel
theorem zd_Gr_net_49 : decode zc_Gr_net 49 = .ok (.istore 7, 2) := by decide +kernel
theorem zd_Gr_net_51 : decode zc_Gr_net 51 = .ok (.aload_n 0, 1) := by decide +kernel
theorem zd_Gr_net_52 : decode zc_Gr_net 52 = .ok (.getfield 12, 3) := by decide +kernel
theorem zd_Gr_net_55 : decode zc_Gr_net 55 = .ok (.iload 4, 2) := by decide +kernel
theorem zd_Gr_net_57 : decode zc_Gr_net 57 = .ok (.iload 5, 2) := by decide +kernel
theorem zd_Gr_net_59 : decode zc_Gr_net 59 = .ok (.iload 6, 2) := by decide +kernel
theorem zd_Gr_net_61 : decode zc_Gr_net 61 = .ok (.invokevirtual 83, 3) := by decide +kernel
theorem zd_Gr_net_64 : decode zc_Gr_net 64 = .ok (.istore 8, 2) := by decide +kernel
theorem zd_Gr_net_66 : decode zc_Gr_net 66 = .ok (.iload 7, 2) := by decide +kernel
theorem zd_Gr_net_68 : decode zc_Gr_net 68 = .ok (.iload 8, 2) := by decide +kernel
theorem zd_Gr_net_70 : decode zc_Gr_net 70 = .ok (.if_icmp .eq 41, 3) := by decide +kernel
theorem zd_Gr_net_73 : decode zc_Gr_net 73 = .ok (.aload_n 0, 1) := by decide +kernel
theorem zd_Gr_net_74 : decode zc_Gr_net 74 = .ok (.getfield 41, 3) := by decide +kernel
theorem zd_Gr_net_77 : decode zc_Gr_net 77 = .ok (.iload 7, 2) := by decide +kernel
theorem zd_Gr_net_79 : decode zc_Gr_net 79 = .ok (.aload_n 0, 1) := by decide +kernel
theorem zd_Gr_net_80 : decode zc_Gr_net 80 = .ok (.getfield 23, 3) := by decide +kernel
theorem zd_Gr_net_83 : decode zc_Gr_net 83 = .ok (.getfield 100, 3) := by decide +kernel
theorem zd_Gr_net_86 : decode zc_Gr_net 86 = .ok (.invokevirtual 104, 3) := by decide +kernel
theorem zd_Gr_net_89 : decode zc_Gr_net 89 = .ok (.ifCond .ne 22, 3) := by decide +kernel
theorem zd_Gr_net_92 : decode zc_Gr_net 92 = .ok (.aload_n 0, 1) := by decide +kernel
theorem zd_Gr_net_93 : decode zc_Gr_net 93 = .ok (.getfield 41, 3) := by decide +kernel
theorem zd_Gr_net_96 : decode zc_Gr_net 96 = .ok (.iload 8, 2) := by decide +kernel
theorem zd_Gr_net_98 : decode zc_Gr_net 98 = .ok (.aload_n 0, 1) := by decide +kernel
theorem zd_Gr_net_99 : decode zc_Gr_net 99 = .ok (.getfield 23, 3) := by decide +kernel
theorem zd_Gr_net_102 : decode zc_Gr_net 102 = .ok (.getfield 100, 3) := by decide +kernel
theorem zd_Gr_net_105 : decode zc_Gr_net 105 = .ok (.invokevirtual 104, 3) := by decide +kernel
theorem zd_Gr_net_108 : decode zc_Gr_net 108 = .ok (.ifCond .eq 13, 3) := by decide +kernel
theorem zd_Gr_net_121 : decode zc_Gr_net 121 = .ok (.aload_n 0, 1) := by decide +kernel
theorem zd_Gr_net_122 : decode zc_Gr_net 122 = .ok (.getfield 23, 3) := by decide +kernel
theorem zd_Gr_net_125 : decode zc_Gr_net 125 = .ok (.getfield 100, 3) := by decide +kernel
theorem zd_Gr_net_128 : decode zc_Gr_net 128 = .ok (.bipush 6, 2) := by decide +kernel
theorem zd_Gr_net_130 : decode zc_Gr_net 130 = .ok (.if_icmp .lt 13, 3) := by decide +kernel
theorem zd_Gr_net_143 : decode zc_Gr_net 143 = .ok (.aload_n 0, 1) := by decide +kernel
theorem zd_Gr_net_144 : decode zc_Gr_net 144 = .ok (.getfield 23, 3) := by decide +kernel
theorem zd_Gr_net_147 : decode zc_Gr_net 147 = .ok (.iload 7, 2) := by decide +kernel
theorem zd_Gr_net_149 : decode zc_Gr_net 149 = .ok (.iload 8, 2) := by decide +kernel
theorem zd_Gr_net_151 : decode zc_Gr_net 151 = .ok (.invokevirtual 115, 3) := by decide +kernel
theorem zd_Gr_net_154 : decode zc_Gr_net 154 = .ok (.istore 9, 2) := by decide +kernel
theorem zd_Gr_net_156 : decode zc_Gr_net 156 = .ok (.aload_n 0, 1) := by decide +kernel
theorem zd_Gr_net_157 : decode zc_Gr_net 157 = .ok (.getfield 32, 3) := by decide +kernel
theorem zd_Gr_net_160 : decode zc_Gr_net 160 = .ok (.getfield 119, 3) := by decide +kernel
theorem zd_Gr_net_163 : decode zc_Gr_net 163 = .ok (.iload 7, 2) := by decide +kernel
theorem zd_Gr_net_165 : decode zc_Gr_net 165 = .ok (.iload 9, 2) := by decide +kernel
theorem zd_Gr_net_167 : decode zc_Gr_net 167 = .ok (.iastore, 1) := by decide +kernel
theorem zd_Gr_net_168 : decode zc_Gr_net 168 = .ok (.aload_n 0, 1) := by decide +kernel
theorem zd_Gr_net_169 : decode zc_Gr_net 169 = .ok (.getfield 32, 3) := by decide +kernel
theorem zd_Gr_net_172 : decode zc_Gr_net 172 = .ok (.getfield 119, 3) := by decide +kernel
theorem zd_Gr_net_175 : decode zc_Gr_net 175 = .ok (.iload 8, 2) := by decide +kernel
theorem zd_Gr_net_177 : decode zc_Gr_net 177 = .ok (.iload 9, 2) := by decide +kernel
theorem zd_Gr_net_179 : decode zc_Gr_net 179 = .ok (.iastore, 1) := by decide +kernel
theorem zd_Gr_net_180 : decode zc_Gr_net 180 = .ok (.iload 9, 2) := by decide +kernel
theorem zd_Gr_net_182 : decode zc_Gr_net 182 = .ok (.ireturn, 1) := by decide +kernel
theorem zd_Gr_net_29 : decode zc_Gr_net 29 = .ok (.new 76, 3) := by decide +kernel
theorem zd_Gr_net_32 : decode zc_Gr_net 32 = .ok (.dup, 1) := by decide +kernel
theorem zd_Gr_net_33 : decode zc_Gr_net 33 = .ok (.ldc 78, 2) := by decide +kernel
theorem zd_Gr_net_35 : decode zc_Gr_net 35 = .ok (.invokespecial 80, 3) := by decide +kernel
theorem zd_Gr_net_38 : decode zc_Gr_net 38 = .ok (.athrow, 1) := by decide +kernel
theorem zd_Gr_net_111 : decode zc_Gr_net 111 = .ok (.new 108, 3) := by decide +kernel
theorem zd_Gr_net_114 : decode zc_Gr_net 114 = .ok (.dup, 1) := by decide +kernel
theorem zd_Gr_net_115 : decode zc_Gr_net 115 = .ok (.ldc 110, 2) := by decide +kernel
theorem zd_Gr_net_117 : decode zc_Gr_net 117 = .ok (.invokespecial 112, 3) := by decide +kernel
theorem zd_Gr_net_120 : decode zc_Gr_net 120 = .ok (.athrow, 1) := by decide +kernel
theorem zd_Gr_net_133 : decode zc_Gr_net 133 = .ok (.new 91, 3) := by decide +kernel
theorem zd_Gr_net_136 : decode zc_Gr_net 136 = .ok (.dup, 1) := by decide +kernel
theorem zd_Gr_net_137 : decode zc_Gr_net 137 = .ok (.ldc 113, 2) := by decide +kernel
theorem zd_Gr_net_139 : decode zc_Gr_net 139 = .ok (.invokespecial 95, 3) := by decide +kernel
theorem zd_Gr_net_142 : decode zc_Gr_net 142 = .ok (.athrow, 1) := by decide +kernel
theorem zd_Gr_route_0 : decode zc_Gr_route 0 = .ok (.aload_n 0, 1) := by decide +kernel
theorem zd_Gr_route_1 : decode zc_Gr_route 1 = .ok (.getfield 23, 3) := by decide +kernel
theorem zd_Gr_route_4 : decode zc_Gr_route 4 = .ok (.iload_n 1, 1) := by decide +kernel
theorem zd_Gr_route_5 : decode zc_Gr_route 5 = .ok (.invokevirtual 122, 3) := by decide +kernel
theorem zd_Gr_route_8 : decode zc_Gr_route 8 = .ok (.ifCond .ne 13, 3) := by decide +kernel
theorem zd_Gr_route_21 : decode zc_Gr_route 21 = .ok (.aload_n 0, 1) := by decide +kernel
theorem zd_Gr_route_22 : decode zc_Gr_route 22 = .ok (.getfield 59, 3) := by decide +kernel
theorem zd_Gr_route_25 : decode zc_Gr_route 25 = .ok (.iload_n 1, 1) := by decide +kernel
theorem zd_Gr_route_26 : decode zc_Gr_route 26 = .ok (.invokevirtual 128, 3) := by decide +kernel
theorem zd_Gr_route_29 : decode zc_Gr_route 29 = .ok (.ireturn, 1) := by decide +kernel
theorem zd_Gr_route_11 : decode zc_Gr_route 11 = .ok (.new 76, 3) := by decide +kernel
theorem zd_Gr_route_14 : decode zc_Gr_route 14 = .ok (.dup, 1) := by decide +kernel
theorem zd_Gr_route_15 : decode zc_Gr_route 15 = .ok (.ldc 126, 2) := by decide +kernel
theorem zd_Gr_route_17 : decode zc_Gr_route 17 = .ok (.invokespecial 80, 3) := by decide +kernel
theorem zd_Gr_route_20 : decode zc_Gr_route 20 = .ok (.athrow, 1) := by decide +kernel
theorem zd_Gr_push_0 : decode zc_Gr_push 0 = .ok (.aload_n 0, 1) := by decide +kernel
theorem zd_Gr_push_1 : decode zc_Gr_push 1 = .ok (.getfield 23, 3) := by decide +kernel
theorem zd_Gr_push_4 : decode zc_Gr_push 4 = .ok (.iload_n 1, 1) := by decide +kernel
theorem zd_Gr_push_5 : decode zc_Gr_push 5 = .ok (.invokevirtual 122, 3) := by decide +kernel
theorem zd_Gr_push_8 : decode zc_Gr_push 8 = .ok (.ifCond .ne 13, 3) := by decide +kernel
theorem zd_Gr_push_21 : decode zc_Gr_push 21 = .ok (.aload_n 0, 1) := by decide +kernel
theorem zd_Gr_push_22 : decode zc_Gr_push 22 = .ok (.getfield 59, 3) := by decide +kernel
theorem zd_Gr_push_25 : decode zc_Gr_push 25 = .ok (.iload_n 1, 1) := by decide +kernel
theorem zd_Gr_push_26 : decode zc_Gr_push 26 = .ok (.invokevirtual 132, 3) := by decide +kernel
theorem zd_Gr_push_29 : decode zc_Gr_push 29 = .ok (.ireturn, 1) := by decide +kernel
theorem zd_Gr_push_11 : decode zc_Gr_push 11 = .ok (.new 76, 3) := by decide +kernel
theorem zd_Gr_push_14 : decode zc_Gr_push 14 = .ok (.dup, 1) := by decide +kernel
theorem zd_Gr_push_15 : decode zc_Gr_push 15 = .ok (.ldc 126, 2) := by decide +kernel
theorem zd_Gr_push_17 : decode zc_Gr_push 17 = .ok (.invokespecial 80, 3) := by decide +kernel
theorem zd_Gr_push_20 : decode zc_Gr_push 20 = .ok (.athrow, 1) := by decide +kernel
theorem zd_Gr_all_0 : decode zc_Gr_all 0 = .ok (.iload_n 2, 1) := by decide +kernel
theorem zd_Gr_all_1 : decode zc_Gr_all 1 = .ok (.ifCond .lt 9, 3) := by decide +kernel
theorem zd_Gr_all_4 : decode zc_Gr_all 4 = .ok (.iload_n 2, 1) := by decide +kernel
theorem zd_Gr_all_5 : decode zc_Gr_all 5 = .ok (.bipush 20, 2) := by decide +kernel
theorem zd_Gr_all_7 : decode zc_Gr_all 7 = .ok (.if_icmp .le 13, 3) := by decide +kernel
theorem zd_Gr_all_20 : decode zc_Gr_all 20 = .ok (.aload_n 0, 1) := by decide +kernel
theorem zd_Gr_all_21 : decode zc_Gr_all 21 = .ok (.getfield 59, 3) := by decide +kernel
theorem zd_Gr_all_24 : decode zc_Gr_all 24 = .ok (.iload_n 1, 1) := by decide +kernel
theorem zd_Gr_all_25 : decode zc_Gr_all 25 = .ok (.invokevirtual 137, 3) := by decide +kernel
theorem zd_Gr_all_28 : decode zc_Gr_all 28 = .ok (.aload_n 0, 1) := by decide +kernel
theorem zd_Gr_all_29 : decode zc_Gr_all 29 = .ok (.getfield 59, 3) := by decide +kernel
theorem zd_Gr_all_32 : decode zc_Gr_all 32 = .ok (.iload_n 2, 1) := by decide +kernel
theorem zd_Gr_all_33 : decode zc_Gr_all 33 = .ok (.invokevirtual 141, 3) := by decide +kernel
theorem zd_Gr_all_36 : decode zc_Gr_all 36 = .ok (.aload_n 0, 1) := by decide +kernel
theorem zd_Gr_all_37 : decode zc_Gr_all 37 = .ok (.getfield 59, 3) := by decide +kernel
theorem zd_Gr_all_40 : decode zc_Gr_all 40 = .ok (.invokevirtual 145, 3) := by decide +kernel
theorem zd_Gr_all_43 : decode zc_Gr_all 43 = .ok (.aload_n 0, 1) := by decide +kernel
theorem zd_Gr_all_44 : decode zc_Gr_all 44 = .ok (.getfield 23, 3) := by decide +kernel
theorem zd_Gr_all_47 : decode zc_Gr_all 47 = .ok (.getfield 100, 3) := by decide +kernel
theorem zd_Gr_all_50 : decode zc_Gr_all 50 = .ok (.aload_n 0, 1) := by decide +kernel
theorem zd_Gr_all_51 : decode zc_Gr_all 51 = .ok (.getfield 50, 3) := by decide +kernel
theorem zd_Gr_all_54 : decode zc_Gr_all 54 = .ok (.invokevirtual 148, 3) := by decide +kernel
theorem zd_Gr_all_57 : decode zc_Gr_all 57 = .ok (.isub, 1) := by decide +kernel
theorem zd_Gr_all_58 : decode zc_Gr_all 58 = .ok (.ireturn, 1) := by decide +kernel
theorem zd_Gr_all_10 : decode zc_Gr_all 10 = .ok (.new 108, 3) := by decide +kernel
theorem zd_Gr_all_13 : decode zc_Gr_all 13 = .ok (.dup, 1) := by decide +kernel
theorem zd_Gr_all_14 : decode zc_Gr_all 14 = .ok (.ldc 135, 2) := by decide +kernel
theorem zd_Gr_all_16 : decode zc_Gr_all 16 = .ok (.invokespecial 112, 3) := by decide +kernel
theorem zd_Gr_all_19 : decode zc_Gr_all 19 = .ok (.athrow, 1) := by decide +kernel
theorem zd_Gr_rip_0 : decode zc_Gr_rip 0 = .ok (.aload_n 0, 1) := by decide +kernel
theorem zd_Gr_rip_1 : decode zc_Gr_rip 1 = .ok (.getfield 23, 3) := by decide +kernel
theorem zd_Gr_rip_4 : decode zc_Gr_rip 4 = .ok (.iload_n 1, 1) := by decide +kernel
theorem zd_Gr_rip_5 : decode zc_Gr_rip 5 = .ok (.invokevirtual 122, 3) := by decide +kernel
theorem zd_Gr_rip_8 : decode zc_Gr_rip 8 = .ok (.ifCond .ne 13, 3) := by decide +kernel
theorem zd_Gr_rip_21 : decode zc_Gr_rip 21 = .ok (.aload_n 0, 1) := by decide +kernel
theorem zd_Gr_rip_22 : decode zc_Gr_rip 22 = .ok (.getfield 32, 3) := by decide +kernel
theorem zd_Gr_rip_25 : decode zc_Gr_rip 25 = .ok (.iload_n 1, 1) := by decide +kernel
theorem zd_Gr_rip_26 : decode zc_Gr_rip 26 = .ok (.invokevirtual 152, 3) := by decide +kernel
theorem zd_Gr_rip_29 : decode zc_Gr_rip 29 = .ok (.return_, 1) := by decide +kernel
theorem zd_Gr_rip_11 : decode zc_Gr_rip 11 = .ok (.new 76, 3) := by decide +kernel
theorem zd_Gr_rip_14 : decode zc_Gr_rip 14 = .ok (.dup, 1) := by decide +kernel
theorem zd_Gr_rip_15 : decode zc_Gr_rip 15 = .ok (.ldc 126, 2) := by decide +kernel
theorem zd_Gr_rip_17 : decode zc_Gr_rip 17 = .ok (.invokespecial 80, 3) := by decide +kernel
theorem zd_Gr_rip_20 : decode zc_Gr_rip 20 = .ok (.athrow, 1) := by decide +kernel
theorem zd_Gr_paint_41 : decode zc_Gr_paint 41 = .ok (.aload_n 0, 1) := by decide +kernel
theorem zd_Gr_paint_42 : decode zc_Gr_paint 42 = .ok (.getfield 32, 3) := by decide +kernel
theorem zd_Gr_paint_45 : decode zc_Gr_paint 45 = .ok (.getfield 119, 3) := by decide +kernel
theorem zd_Gr_paint_48 : decode zc_Gr_paint 48 = .ok (.aload_n 0, 1) := by decide +kernel
theorem zd_Gr_paint_49 : decode zc_Gr_paint 49 = .ok (.getfield 12, 3) := by decide +kernel
theorem zd_Gr_paint_52 : decode zc_Gr_paint 52 = .ok (.iload_n 1, 1) := by decide +kernel
theorem zd_Gr_paint_53 : decode zc_Gr_paint 53 = .ok (.iload_n 2, 1) := by decide +kernel
theorem zd_Gr_paint_54 : decode zc_Gr_paint 54 = .ok (.iload_n 3, 1) := by decide +kernel
theorem zd_Gr_paint_55 : decode zc_Gr_paint 55 = .ok (.invokevirtual 83, 3) := by decide +kernel
theorem zd_Gr_paint_58 : decode zc_Gr_paint 58 = .ok (.iload 4, 2) := by decide +kernel
theorem zd_Gr_paint_60 : decode zc_Gr_paint 60 = .ok (.iastore, 1) := by decide +kernel
theorem zd_Gr_paint_61 : decode zc_Gr_paint 61 = .ok (.return_, 1) := by decide +kernel
theorem zd_Gr_paint_0 : decode zc_Gr_paint 0 = .ok (.aload_n 0, 1) := by decide +kernel
theorem zd_Gr_paint_1 : decode zc_Gr_paint 1 = .ok (.getfield 12, 3) := by decide +kernel
theorem zd_Gr_paint_4 : decode zc_Gr_paint 4 = .ok (.iload_n 1, 1) := by decide +kernel
theorem zd_Gr_paint_5 : decode zc_Gr_paint 5 = .ok (.iload_n 2, 1) := by decide +kernel
theorem zd_Gr_paint_6 : decode zc_Gr_paint 6 = .ok (.iload_n 3, 1) := by decide +kernel
theorem zd_Gr_paint_7 : decode zc_Gr_paint 7 = .ok (.invokevirtual 72, 3) := by decide +kernel
theorem zd_Gr_paint_10 : decode zc_Gr_paint 10 = .ok (.ifCond .eq 21, 3) := by decide +kernel
theorem zd_Gr_paint_13 : decode zc_Gr_paint 13 = .ok (.iload 4, 2) := by decide +kernel
theorem zd_Gr_paint_15 : decode zc_Gr_paint 15 = .ok (.iconst (-1), 1) := by decide +kernel
theorem zd_Gr_paint_16 : decode zc_Gr_paint 16 = .ok (.if_icmp .eq 25, 3) := by decide +kernel
theorem zd_Gr_paint_19 : decode zc_Gr_paint 19 = .ok (.aload_n 0, 1) := by decide +kernel
theorem zd_Gr_paint_20 : decode zc_Gr_paint 20 = .ok (.getfield 23, 3) := by decide +kernel
theorem zd_Gr_paint_23 : decode zc_Gr_paint 23 = .ok (.iload 4, 2) := by decide +kernel
theorem zd_Gr_paint_25 : decode zc_Gr_paint 25 = .ok (.invokevirtual 122, 3) := by decide +kernel
theorem zd_Gr_paint_28 : decode zc_Gr_paint 28 = .ok (.ifCond .ne 13, 3) := by decide +kernel
theorem zd_Gr_paint_31 : decode zc_Gr_paint 31 = .ok (.new 76, 3) := by decide +kernel
theorem zd_Gr_paint_34 : decode zc_Gr_paint 34 = .ok (.dup, 1) := by decide +kernel
theorem zd_Gr_paint_35 : decode zc_Gr_paint 35 = .ok (.ldc 155, 2) := by decide +kernel
theorem zd_Gr_paint_37 : decode zc_Gr_paint 37 = .ok (.invokespecial 80, 3) := by decide +kernel
theorem zd_Gr_paint_40 : decode zc_Gr_paint 40 = .ok (.athrow, 1) := by decide +kernel
theorem zd_Gr_stitch_58 : decode zc_Gr_stitch 58 = .ok (.bastore, 1) := by decide +kernel
theorem zd_Gr_stitch_59 : decode zc_Gr_stitch 59 = .ok (.aload_n 0, 1) := by decide +kernel
theorem zd_Gr_stitch_60 : decode zc_Gr_stitch 60 = .ok (.getfield 32, 3) := by decide +kernel
theorem zd_Gr_stitch_63 : decode zc_Gr_stitch 63 = .ok (.getfield 162, 3) := by decide +kernel
theorem zd_Gr_stitch_66 : decode zc_Gr_stitch 66 = .ok (.iload_n 3, 1) := by decide +kernel
theorem zd_Gr_stitch_67 : decode zc_Gr_stitch 67 = .ok (.baload, 1) := by decide +kernel
theorem zd_Gr_stitch_68 : decode zc_Gr_stitch 68 = .ok (.ireturn, 1) := by decide +kernel
theorem zd_Gr_stitch_0 : decode zc_Gr_stitch 0 = .ok (.aload_n 0, 1) := by decide +kernel
theorem zd_Gr_stitch_1 : decode zc_Gr_stitch 1 = .ok (.getfield 12, 3) := by decide +kernel
theorem zd_Gr_stitch_4 : decode zc_Gr_stitch 4 = .ok (.iload_n 1, 1) := by decide +kernel
theorem zd_Gr_stitch_5 : decode zc_Gr_stitch 5 = .ok (.iload_n 2, 1) := by decide +kernel
theorem zd_Gr_stitch_6 : decode zc_Gr_stitch 6 = .ok (.invokevirtual 157, 3) := by decide +kernel
theorem zd_Gr_stitch_9 : decode zc_Gr_stitch 9 = .ok (.ifCond .ne 13, 3) := by decide +kernel
theorem zd_Gr_stitch_22 : decode zc_Gr_stitch 22 = .ok (.aload_n 0, 1) := by decide +kernel
theorem zd_Gr_stitch_23 : decode zc_Gr_stitch 23 = .ok (.getfield 12, 3) := by decide +kernel
theorem zd_Gr_stitch_26 : decode zc_Gr_stitch 26 = .ok (.iconst 0, 1) := by decide +kernel
theorem zd_Gr_stitch_27 : decode zc_Gr_stitch 27 = .ok (.iload_n 1, 1) := by decide +kernel
theorem zd_Gr_stitch_28 : decode zc_Gr_stitch 28 = .ok (.iload_n 2, 1) := by decide +kernel
theorem zd_Gr_stitch_29 : decode zc_Gr_stitch 29 = .ok (.invokevirtual 83, 3) := by decide +kernel
theorem zd_Gr_stitch_32 : decode zc_Gr_stitch 32 = .ok (.istore_n 3, 1) := by decide +kernel
theorem zd_Gr_stitch_33 : decode zc_Gr_stitch 33 = .ok (.aload_n 0, 1) := by decide +kernel
theorem zd_Gr_stitch_34 : decode zc_Gr_stitch 34 = .ok (.getfield 32, 3) := by decide +kernel
theorem zd_Gr_stitch_37 : decode zc_Gr_stitch 37 = .ok (.getfield 162, 3) := by decide +kernel
theorem zd_Gr_stitch_40 : decode zc_Gr_stitch 40 = .ok (.iload_n 3, 1) := by decide +kernel
theorem zd_Gr_stitch_41 : decode zc_Gr_stitch 41 = .ok (.aload_n 0, 1) := by decide +kernel
theorem zd_Gr_stitch_42 : decode zc_Gr_stitch 42 = .ok (.getfield 32, 3) := by decide +kernel
theorem zd_Gr_stitch_45 : decode zc_Gr_stitch 45 = .ok (.getfield 162, 3) := by decide +kernel
theorem zd_Gr_stitch_48 : decode zc_Gr_stitch 48 = .ok (.iload_n 3, 1) := by decide +kernel
theorem zd_Gr_stitch_49 : decode zc_Gr_stitch 49 = .ok (.baload, 1) := by decide +kernel
theorem zd_Gr_stitch_50 : decode zc_Gr_stitch 50 = .ok (.ifCond .ne 7, 3) := by decide +kernel
theorem zd_Gr_stitch_57 : decode zc_Gr_stitch 57 = .ok (.iconst 0, 1) := by decide +kernel
theorem zd_Gr_stitch_53 : decode zc_Gr_stitch 53 = .ok (.iconst 1, 1) := by decide +kernel
theorem zd_Gr_stitch_54 : decode zc_Gr_stitch 54 = .ok (.goto 4, 3) := by decide +kernel
theorem zd_Gr_stitch_12 : decode zc_Gr_stitch 12 = .ok (.new 76, 3) := by decide +kernel
theorem zd_Gr_stitch_15 : decode zc_Gr_stitch 15 = .ok (.dup, 1) := by decide +kernel
theorem zd_Gr_stitch_16 : decode zc_Gr_stitch 16 = .ok (.ldc 160, 2) := by decide +kernel
theorem zd_Gr_stitch_18 : decode zc_Gr_stitch 18 = .ok (.invokespecial 80, 3) := by decide +kernel
theorem zd_Gr_stitch_21 : decode zc_Gr_stitch 21 = .ok (.athrow, 1) := by decide +kernel
theorem zd_Gr_cell_0 : decode zc_Gr_cell 0 = .ok (.aload_n 0, 1) := by decide +kernel
theorem zd_Gr_cell_1 : decode zc_Gr_cell 1 = .ok (.getfield 12, 3) := by decide +kernel
theorem zd_Gr_cell_4 : decode zc_Gr_cell 4 = .ok (.iload_n 1, 1) := by decide +kernel
theorem zd_Gr_cell_5 : decode zc_Gr_cell 5 = .ok (.iload_n 2, 1) := by decide +kernel
theorem zd_Gr_cell_6 : decode zc_Gr_cell 6 = .ok (.iload_n 3, 1) := by decide +kernel
theorem zd_Gr_cell_7 : decode zc_Gr_cell 7 = .ok (.invokevirtual 72, 3) := by decide +kernel
theorem zd_Gr_cell_10 : decode zc_Gr_cell 10 = .ok (.ifCond .ne 13, 3) := by decide +kernel
theorem zd_Gr_cell_23 : decode zc_Gr_cell 23 = .ok (.aload_n 0, 1) := by decide +kernel
theorem zd_Gr_cell_24 : decode zc_Gr_cell 24 = .ok (.getfield 32, 3) := by decide +kernel
theorem zd_Gr_cell_27 : decode zc_Gr_cell 27 = .ok (.getfield 119, 3) := by decide +kernel
theorem zd_Gr_cell_30 : decode zc_Gr_cell 30 = .ok (.aload_n 0, 1) := by decide +kernel
theorem zd_Gr_cell_31 : decode zc_Gr_cell 31 = .ok (.getfield 12, 3) := by decide +kernel
theorem zd_Gr_cell_34 : decode zc_Gr_cell 34 = .ok (.iload_n 1, 1) := by decide +kernel
theorem zd_Gr_cell_35 : decode zc_Gr_cell 35 = .ok (.iload_n 2, 1) := by decide +kernel
theorem zd_Gr_cell_36 : decode zc_Gr_cell 36 = .ok (.iload_n 3, 1) := by decide +kernel
theorem zd_Gr_cell_37 : decode zc_Gr_cell 37 = .ok (.invokevirtual 83, 3) := by decide +kernel
theorem zd_Gr_cell_40 : decode zc_Gr_cell 40 = .ok (.iaload, 1) := by decide +kernel
theorem zd_Gr_cell_41 : decode zc_Gr_cell 41 = .ok (.ireturn, 1) := by decide +kernel
theorem zd_Gr_cell_13 : decode zc_Gr_cell 13 = .ok (.new 76, 3) := by decide +kernel
theorem zd_Gr_cell_16 : decode zc_Gr_cell 16 = .ok (.dup, 1) := by decide +kernel
theorem zd_Gr_cell_17 : decode zc_Gr_cell 17 = .ok (.ldc 78, 2) := by decide +kernel
theorem zd_Gr_cell_19 : decode zc_Gr_cell 19 = .ok (.invokespecial 80, 3) := by decide +kernel
theorem zd_Gr_cell_22 : decode zc_Gr_cell 22 = .ok (.athrow, 1) := by decide +kernel
theorem zd_Gr_via_0 : decode zc_Gr_via 0 = .ok (.aload_n 0, 1) := by decide +kernel
theorem zd_Gr_via_1 : decode zc_Gr_via 1 = .ok (.getfield 12, 3) := by decide +kernel
theorem zd_Gr_via_4 : decode zc_Gr_via 4 = .ok (.iload_n 1, 1) := by decide +kernel
theorem zd_Gr_via_5 : decode zc_Gr_via 5 = .ok (.iload_n 2, 1) := by decide +kernel
theorem zd_Gr_via_6 : decode zc_Gr_via 6 = .ok (.invokevirtual 157, 3) := by decide +kernel
theorem zd_Gr_via_9 : decode zc_Gr_via 9 = .ok (.ifCond .ne 13, 3) := by decide +kernel
theorem zd_Gr_via_22 : decode zc_Gr_via 22 = .ok (.aload_n 0, 1) := by decide +kernel
theorem zd_Gr_via_23 : decode zc_Gr_via 23 = .ok (.getfield 32, 3) := by decide +kernel
theorem zd_Gr_via_26 : decode zc_Gr_via 26 = .ok (.getfield 162, 3) := by decide +kernel
theorem zd_Gr_via_29 : decode zc_Gr_via 29 = .ok (.aload_n 0, 1) := by decide +kernel
theorem zd_Gr_via_30 : decode zc_Gr_via 30 = .ok (.getfield 12, 3) := by decide +kernel
theorem zd_Gr_via_33 : decode zc_Gr_via 33 = .ok (.iconst 0, 1) := by decide +kernel
theorem zd_Gr_via_34 : decode zc_Gr_via 34 = .ok (.iload_n 1, 1) := by decide +kernel
theorem zd_Gr_via_35 : decode zc_Gr_via 35 = .ok (.iload_n 2, 1) := by decide +kernel
theorem zd_Gr_via_36 : decode zc_Gr_via 36 = .ok (.invokevirtual 83, 3) := by decide +kernel
theorem zd_Gr_via_39 : decode zc_Gr_via 39 = .ok (.baload, 1) := by decide +kernel
theorem zd_Gr_via_40 : decode zc_Gr_via 40 = .ok (.ireturn, 1) := by decide +kernel
theorem zd_Gr_via_12 : decode zc_Gr_via 12 = .ok (.new 76, 3) := by decide +kernel
theorem zd_Gr_via_15 : decode zc_Gr_via 15 = .ok (.dup, 1) := by decide +kernel
theorem zd_Gr_via_16 : decode zc_Gr_via 16 = .ok (.ldc 160, 2) := by decide +kernel
theorem zd_Gr_via_18 : decode zc_Gr_via 18 = .ok (.invokespecial 80, 3) := by decide +kernel
theorem zd_Gr_via_21 : decode zc_Gr_via 21 = .ok (.athrow, 1) := by decide +kernel
theorem zd_Gr_faults_0 : decode zc_Gr_faults 0 = .ok (.iload_n 1, 1) := by decide +kernel
theorem zd_Gr_faults_1 : decode zc_Gr_faults 1 = .ok (.ifCond .lt 8, 3) := by decide +kernel
theorem zd_Gr_faults_4 : decode zc_Gr_faults 4 = .ok (.iload_n 1, 1) := by decide +kernel
theorem zd_Gr_faults_5 : decode zc_Gr_faults 5 = .ok (.iconst 4, 1) := by decide +kernel
theorem zd_Gr_faults_6 : decode zc_Gr_faults 6 = .ok (.if_icmp .lt 13, 3) := by decide +kernel
theorem zd_Gr_faults_19 : decode zc_Gr_faults 19 = .ok (.aload_n 0, 1) := by decide +kernel
theorem zd_Gr_faults_20 : decode zc_Gr_faults 20 = .ok (.getfield 50, 3) := by decide +kernel
theorem zd_Gr_faults_23 : decode zc_Gr_faults 23 = .ok (.iload_n 1, 1) := by decide +kernel
theorem zd_Gr_faults_24 : decode zc_Gr_faults 24 = .ok (.invokevirtual 167, 3) := by decide +kernel
theorem zd_Gr_faults_27 : decode zc_Gr_faults 27 = .ok (.ireturn, 1) := by decide +kernel
theorem zd_Gr_faults_9 : decode zc_Gr_faults 9 = .ok (.new 108, 3) := by decide +kernel
theorem zd_Gr_faults_12 : decode zc_Gr_faults 12 = .ok (.dup, 1) := by decide +kernel
theorem zd_Gr_faults_13 : decode zc_Gr_faults 13 = .ok (.ldc 165, 2) := by decide +kernel
theorem zd_Gr_faults_15 : decode zc_Gr_faults 15 = .ok (.invokespecial 112, 3) := by decide +kernel
theorem zd_Gr_faults_18 : decode zc_Gr_faults 18 = .ok (.athrow, 1) := by decide +kernel
theorem zd_Gr_shapes_0 : decode zc_Gr_shapes 0 = .ok (.aload_n 0, 1) := by decide +kernel
theorem zd_Gr_shapes_1 : decode zc_Gr_shapes 1 = .ok (.getfield 68, 3) := by decide +kernel
theorem zd_Gr_shapes_4 : decode zc_Gr_shapes 4 = .ok (.invokevirtual 169, 3) := by decide +kernel
theorem zd_Gr_shapes_7 : decode zc_Gr_shapes 7 = .ok (.ireturn, 1) := by decide +kernel
theorem zd_Gr_shape_0 : decode zc_Gr_shape 0 = .ok (.aload_n 0, 1) := by decide +kernel
theorem zd_Gr_shape_1 : decode zc_Gr_shape 1 = .ok (.getfield 68, 3) := by decide +kernel
theorem zd_Gr_shape_4 : decode zc_Gr_shape 4 = .ok (.iload_n 1, 1) := by decide +kernel
theorem zd_Gr_shape_5 : decode zc_Gr_shape 5 = .ok (.invokevirtual 171, 3) := by decide +kernel
theorem zd_Gr_shape_8 : decode zc_Gr_shape 8 = .ok (.istore_n 3, 1) := by decide +kernel
theorem zd_Gr_shape_9 : decode zc_Gr_shape 9 = .ok (.iload_n 3, 1) := by decide +kernel
theorem zd_Gr_shape_10 : decode zc_Gr_shape 10 = .ok (.iconst (-1), 1) := by decide +kernel
theorem zd_Gr_shape_11 : decode zc_Gr_shape 11 = .ok (.if_icmp .ne 13, 3) := by decide +kernel
theorem zd_Gr_shape_24 : decode zc_Gr_shape 24 = .ok (.iload_n 2, 1) := by decide +kernel
theorem zd_Gr_shape_25 : decode zc_Gr_shape 25 = .ok (.ifCond .lt 8, 3) := by decide +kernel
theorem zd_Gr_shape_28 : decode zc_Gr_shape 28 = .ok (.iload_n 2, 1) := by decide +kernel
theorem zd_Gr_shape_29 : decode zc_Gr_shape 29 = .ok (.iconst 5, 1) := by decide +kernel
theorem zd_Gr_shape_30 : decode zc_Gr_shape 30 = .ok (.if_icmp .lt 13, 3) := by decide +kernel
theorem zd_Gr_shape_43 : decode zc_Gr_shape 43 = .ok (.aload_n 0, 1) := by decide +kernel
theorem zd_Gr_shape_44 : decode zc_Gr_shape 44 = .ok (.getfield 68, 3) := by decide +kernel
theorem zd_Gr_shape_47 : decode zc_Gr_shape 47 = .ok (.iload_n 3, 1) := by decide +kernel
theorem zd_Gr_shape_48 : decode zc_Gr_shape 48 = .ok (.iload_n 2, 1) := by decide +kernel
theorem zd_Gr_shape_49 : decode zc_Gr_shape 49 = .ok (.invokevirtual 178, 3) := by decide +kernel
theorem zd_Gr_shape_52 : decode zc_Gr_shape 52 = .ok (.ireturn, 1) := by decide +kernel
theorem zd_Gr_shape_33 : decode zc_Gr_shape 33 = .ok (.new 108, 3) := by decide +kernel
theorem zd_Gr_shape_36 : decode zc_Gr_shape 36 = .ok (.dup, 1) := by decide +kernel
theorem zd_Gr_shape_37 : decode zc_Gr_shape 37 = .ok (.ldc 176, 2) := by decide +kernel
theorem zd_Gr_shape_39 : decode zc_Gr_shape 39 = .ok (.invokespecial 112, 3) := by decide +kernel
theorem zd_Gr_shape_42 : decode zc_Gr_shape 42 = .ok (.athrow, 1) := by decide +kernel
theorem zd_Gr_shape_14 : decode zc_Gr_shape 14 = .ok (.new 76, 3) := by decide +kernel
theorem zd_Gr_shape_17 : decode zc_Gr_shape 17 = .ok (.dup, 1) := by decide +kernel
theorem zd_Gr_shape_18 : decode zc_Gr_shape 18 = .ok (.ldc 174, 2) := by decide +kernel
theorem zd_Gr_shape_20 : decode zc_Gr_shape 20 = .ok (.invokespecial 80, 3) := by decide +kernel
theorem zd_Gr_shape_23 : decode zc_Gr_shape 23 = .ok (.athrow, 1) := by decide +kernel
theorem zd_Mo_thrown_0 : decode zc_Mo_thrown 0 = .ok (.aload_n 0, 1) := by decide +kernel
theorem zd_Mo_thrown_1 : decode zc_Mo_thrown 1 = .ok (.getfield 58, 3) := by decide +kernel
theorem zd_Mo_thrown_4 : decode zc_Mo_thrown 4 = .ok (.ireturn, 1) := by decide +kernel
theorem zd_Mo_fail_0 : decode zc_Mo_fail 0 = .ok (.aload_n 0, 1) := by decide +kernel
theorem zd_Mo_fail_1 : decode zc_Mo_fail 1 = .ok (.iload_n 1, 1) := by decide +kernel
theorem zd_Mo_fail_2 : decode zc_Mo_fail 2 = .ok (.putfield 58, 3) := by decide +kernel
theorem zd_Mo_fail_5 : decode zc_Mo_fail 5 = .ok (.iconst 0, 1) := by decide +kernel
theorem zd_Mo_fail_6 : decode zc_Mo_fail 6 = .ok (.ireturn, 1) := by decide +kernel
theorem zd_Mo_many_0 : decode zc_Mo_many 0 = .ok (.iconst 2, 1) := by decide +kernel
theorem zd_Mo_many_1 : decode zc_Mo_many 1 = .ok (.aload_n 0, 1) := by decide +kernel
theorem zd_Mo_many_2 : decode zc_Mo_many 2 = .ok (.getfield 44, 3) := by decide +kernel
theorem zd_Mo_many_5 : decode zc_Mo_many 5 = .ok (.imul, 1) := by decide +kernel
theorem zd_Mo_many_6 : decode zc_Mo_many 6 = .ok (.aload_n 0, 1) := by decide +kernel
theorem zd_Mo_many_7 : decode zc_Mo_many 7 = .ok (.getfield 48, 3) := by decide +kernel
theorem zd_Mo_many_10 : decode zc_Mo_many 10 = .ok (.imul, 1) := by decide +kernel
theorem zd_Mo_many_11 : decode zc_Mo_many 11 = .ok (.ireturn, 1) := by decide +kernel
theorem zd_Mo_isPlace_28 : decode zc_Mo_isPlace 28 = .ok (.iconst 0, 1) := by decide +kernel
theorem zd_Mo_isPlace_29 : decode zc_Mo_isPlace 29 = .ok (.ireturn, 1) := by decide +kernel
theorem zd_Mo_isPlace_0 : decode zc_Mo_isPlace 0 = .ok (.iload_n 1, 1) := by decide +kernel
theorem zd_Mo_isPlace_1 : decode zc_Mo_isPlace 1 = .ok (.ifCond .lt 27, 3) := by decide +kernel
theorem zd_Mo_isPlace_4 : decode zc_Mo_isPlace 4 = .ok (.iload_n 1, 1) := by decide +kernel
theorem zd_Mo_isPlace_5 : decode zc_Mo_isPlace 5 = .ok (.aload_n 0, 1) := by decide +kernel
theorem zd_Mo_isPlace_6 : decode zc_Mo_isPlace 6 = .ok (.getfield 44, 3) := by decide +kernel
theorem zd_Mo_isPlace_9 : decode zc_Mo_isPlace 9 = .ok (.if_icmp .ge 19, 3) := by decide +kernel
theorem zd_Mo_isPlace_12 : decode zc_Mo_isPlace 12 = .ok (.iload_n 2, 1) := by decide +kernel

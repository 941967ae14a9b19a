theorem zd_Checker_reach_24 : decode zc_Checker_reach 24 = .ok (.if_icmp .ne 30, 3) := by decide +kernel
theorem zd_Checker_reach_27 : decode zc_Checker_reach 27 = .ok (.aload_n 0, 1) := by decide +kernel
theorem zd_Checker_reach_28 : decode zc_Checker_reach 28 = .ok (.getfield 40, 3) := by decide +kernel
theorem zd_Checker_reach_31 : decode zc_Checker_reach 31 = .ok (.iload_n 1, 1) := by decide +kernel
theorem zd_Checker_reach_32 : decode zc_Checker_reach 32 = .ok (.iconst 1, 1) := by decide +kernel
theorem zd_Checker_reach_33 : decode zc_Checker_reach 33 = .ok (.bastore, 1) := by decide +kernel
theorem zd_Checker_reach_34 : decode zc_Checker_reach 34 = .ok (.aload_n 0, 1) := by decide +kernel
theorem zd_Checker_reach_35 : decode zc_Checker_reach 35 = .ok (.getfield 36, 3) := by decide +kernel
theorem zd_Checker_reach_38 : decode zc_Checker_reach 38 = .ok (.aload_n 0, 1) := by decide +kernel
theorem zd_Checker_reach_39 : decode zc_Checker_reach 39 = .ok (.getfield 9, 3) := by decide +kernel
theorem zd_Checker_reach_42 : decode zc_Checker_reach 42 = .ok (.iload_n 1, 1) := by decide +kernel
theorem zd_Checker_reach_43 : decode zc_Checker_reach 43 = .ok (.iastore, 1) := by decide +kernel
theorem zd_Checker_reach_44 : decode zc_Checker_reach 44 = .ok (.aload_n 0, 1) := by decide +kernel
theorem zd_Checker_reach_45 : decode zc_Checker_reach 45 = .ok (.dup, 1) := by decide +kernel
theorem zd_Checker_reach_46 : decode zc_Checker_reach 46 = .ok (.getfield 9, 3) := by decide +kernel
theorem zd_Checker_reach_49 : decode zc_Checker_reach 49 = .ok (.iconst 1, 1) := by decide +kernel
theorem zd_Checker_reach_50 : decode zc_Checker_reach 50 = .ok (.iadd, 1) := by decide +kernel
theorem zd_Checker_reach_51 : decode zc_Checker_reach 51 = .ok (.putfield 9, 3) := by decide +kernel
theorem zd_Grid_link_24 : decode zc_Grid_link 24 = .ok (.iastore, 1) := by decide +kernel
theorem zd_Grid_link_25 : decode zc_Grid_link 25 = .ok (.aload_n 0, 1) := by decide +kernel
theorem zd_Grid_link_26 : decode zc_Grid_link 26 = .ok (.getfield 31, 3) := by decide +kernel
theorem zd_Grid_link_29 : decode zc_Grid_link 29 = .ok (.iload 4, 2) := by decide +kernel
theorem zd_Grid_link_31 : decode zc_Grid_link 31 = .ok (.iconst 1, 1) := by decide +kernel
theorem zd_Grid_link_32 : decode zc_Grid_link 32 = .ok (.iadd, 1) := by decide +kernel
theorem zd_Grid_link_33 : decode zc_Grid_link 33 = .ok (.iload_n 2, 1) := by decide +kernel
theorem zd_Grid_link_34 : decode zc_Grid_link 34 = .ok (.aload_n 0, 1) := by decide +kernel
theorem zd_Grid_link_35 : decode zc_Grid_link 35 = .ok (.getfield 9, 3) := by decide +kernel
theorem zd_Grid_link_38 : decode zc_Grid_link 38 = .ok (.iconst 1, 1) := by decide +kernel
theorem zd_Grid_link_39 : decode zc_Grid_link 39 = .ok (.isub, 1) := by decide +kernel
theorem zd_Grid_link_40 : decode zc_Grid_link 40 = .ok (.if_icmp .ge 9, 3) := by decide +kernel
theorem zd_Grid_link_49 : decode zc_Grid_link 49 = .ok (.iconst (-1), 1) := by decide +kernel
theorem zd_Grid_link_43 : decode zc_Grid_link 43 = .ok (.iload_n 1, 1) := by decide +kernel
theorem zd_Grid_link_44 : decode zc_Grid_link 44 = .ok (.iconst 1, 1) := by decide +kernel
theorem zd_Grid_link_45 : decode zc_Grid_link 45 = .ok (.iadd, 1) := by decide +kernel
theorem zd_Grid_link_46 : decode zc_Grid_link 46 = .ok (.goto 4, 3) := by decide +kernel
theorem zd_Grid_link_50 : decode zc_Grid_link 50 = .ok (.iastore, 1) := by decide +kernel
theorem zd_Grid_link_51 : decode zc_Grid_link 51 = .ok (.aload_n 0, 1) := by decide +kernel
theorem zd_Grid_link_52 : decode zc_Grid_link 52 = .ok (.getfield 31, 3) := by decide +kernel
theorem zd_Grid_link_55 : decode zc_Grid_link 55 = .ok (.iload 4, 2) := by decide +kernel
theorem zd_Grid_link_57 : decode zc_Grid_link 57 = .ok (.iconst 2, 1) := by decide +kernel
theorem zd_Grid_link_58 : decode zc_Grid_link 58 = .ok (.iadd, 1) := by decide +kernel
theorem zd_Grid_link_59 : decode zc_Grid_link 59 = .ok (.iload_n 3, 1) := by decide +kernel
theorem zd_Grid_link_60 : decode zc_Grid_link 60 = .ok (.ifCond .le 12, 3) := by decide +kernel
theorem zd_Grid_link_72 : decode zc_Grid_link 72 = .ok (.iconst (-1), 1) := by decide +kernel
theorem zd_Grid_link_63 : decode zc_Grid_link 63 = .ok (.iload_n 1, 1) := by decide +kernel
theorem zd_Grid_link_64 : decode zc_Grid_link 64 = .ok (.aload_n 0, 1) := by decide +kernel
theorem zd_Grid_link_65 : decode zc_Grid_link 65 = .ok (.getfield 9, 3) := by decide +kernel
theorem zd_Grid_link_68 : decode zc_Grid_link 68 = .ok (.isub, 1) := by decide +kernel
theorem zd_Grid_link_69 : decode zc_Grid_link 69 = .ok (.goto 4, 3) := by decide +kernel
theorem zd_Grid_link_73 : decode zc_Grid_link 73 = .ok (.iastore, 1) := by decide +kernel
theorem zd_Grid_link_74 : decode zc_Grid_link 74 = .ok (.aload_n 0, 1) := by decide +kernel
theorem zd_Grid_link_75 : decode zc_Grid_link 75 = .ok (.getfield 31, 3) := by decide +kernel
theorem zd_Grid_link_78 : decode zc_Grid_link 78 = .ok (.iload 4, 2) := by decide +kernel
theorem zd_Grid_link_80 : decode zc_Grid_link 80 = .ok (.iconst 3, 1) := by decide +kernel
theorem zd_Grid_link_81 : decode zc_Grid_link 81 = .ok (.iadd, 1) := by decide +kernel
theorem zd_Grid_link_82 : decode zc_Grid_link 82 = .ok (.iload_n 3, 1) := by decide +kernel
theorem zd_Grid_link_83 : decode zc_Grid_link 83 = .ok (.aload_n 0, 1) := by decide +kernel
theorem zd_Grid_link_84 : decode zc_Grid_link 84 = .ok (.getfield 15, 3) := by decide +kernel
theorem zd_Grid_link_87 : decode zc_Grid_link 87 = .ok (.iconst 1, 1) := by decide +kernel
theorem zd_Grid_link_88 : decode zc_Grid_link 88 = .ok (.isub, 1) := by decide +kernel
theorem zd_Grid_link_89 : decode zc_Grid_link 89 = .ok (.if_icmp .ge 12, 3) := by decide +kernel
theorem zd_Grid_link_101 : decode zc_Grid_link 101 = .ok (.iconst (-1), 1) := by decide +kernel
theorem zd_Grid_link_92 : decode zc_Grid_link 92 = .ok (.iload_n 1, 1) := by decide +kernel
theorem zd_Grid_link_93 : decode zc_Grid_link 93 = .ok (.aload_n 0, 1) := by decide +kernel
theorem zd_Grid_link_94 : decode zc_Grid_link 94 = .ok (.getfield 9, 3) := by decide +kernel
theorem zd_Grid_link_97 : decode zc_Grid_link 97 = .ok (.iadd, 1) := by decide +kernel
theorem zd_Grid_link_98 : decode zc_Grid_link 98 = .ok (.goto 4, 3) := by decide +kernel
theorem zd_Grid_link_102 : decode zc_Grid_link 102 = .ok (.iastore, 1) := by decide +kernel
theorem zd_Grid_link_103 : decode zc_Grid_link 103 = .ok (.aload_n 0, 1) := by decide +kernel
theorem zd_Grid_link_104 : decode zc_Grid_link 104 = .ok (.getfield 31, 3) := by decide +kernel
theorem zd_Grid_link_107 : decode zc_Grid_link 107 = .ok (.iload 4, 2) := by decide +kernel
theorem zd_Grid_link_109 : decode zc_Grid_link 109 = .ok (.iconst 4, 1) := by decide +kernel
theorem zd_Grid_link_110 : decode zc_Grid_link 110 = .ok (.iadd, 1) := by decide +kernel
theorem zd_Grid_link_111 : decode zc_Grid_link 111 = .ok (.iload_n 1, 1) := by decide +kernel
theorem zd_Grid_link_112 : decode zc_Grid_link 112 = .ok (.aload_n 0, 1) := by decide +kernel
theorem zd_Grid_link_113 : decode zc_Grid_link 113 = .ok (.getfield 18, 3) := by decide +kernel
theorem zd_Grid_link_116 : decode zc_Grid_link 116 = .ok (.if_icmp .ge 12, 3) := by decide +kernel
theorem zd_Grid_link_128 : decode zc_Grid_link 128 = .ok (.iload_n 1, 1) := by decide +kernel
theorem zd_Grid_link_129 : decode zc_Grid_link 129 = .ok (.aload_n 0, 1) := by decide +kernel
theorem zd_Grid_link_130 : decode zc_Grid_link 130 = .ok (.getfield 18, 3) := by decide +kernel
theorem zd_Grid_link_133 : decode zc_Grid_link 133 = .ok (.isub, 1) := by decide +kernel
theorem zd_Grid_link_119 : decode zc_Grid_link 119 = .ok (.iload_n 1, 1) := by decide +kernel
theorem zd_Grid_link_120 : decode zc_Grid_link 120 = .ok (.aload_n 0, 1) := by decide +kernel
theorem zd_Grid_link_121 : decode zc_Grid_link 121 = .ok (.getfield 18, 3) := by decide +kernel
theorem zd_Grid_link_124 : decode zc_Grid_link 124 = .ok (.iadd, 1) := by decide +kernel
theorem zd_Grid_link_125 : decode zc_Grid_link 125 = .ok (.goto 9, 3) := by decide +kernel
theorem zd_Grid_link_134 : decode zc_Grid_link 134 = .ok (.iastore, 1) := by decide +kernel
theorem zd_Grid_link_135 : decode zc_Grid_link 135 = .ok (.return_, 1) := by decide +kernel
theorem zd_Grid_link_0 : decode zc_Grid_link 0 = .ok (.iload_n 1, 1) := by decide +kernel
theorem zd_Grid_link_1 : decode zc_Grid_link 1 = .ok (.iconst 5, 1) := by decide +kernel
theorem zd_Grid_link_2 : decode zc_Grid_link 2 = .ok (.imul, 1) := by decide +kernel
theorem zd_Grid_link_3 : decode zc_Grid_link 3 = .ok (.istore 4, 2) := by decide +kernel
theorem zd_Grid_link_5 : decode zc_Grid_link 5 = .ok (.aload_n 0, 1) := by decide +kernel
theorem zd_Grid_link_6 : decode zc_Grid_link 6 = .ok (.getfield 31, 3) := by decide +kernel
theorem zd_Grid_link_9 : decode zc_Grid_link 9 = .ok (.iload 4, 2) := by decide +kernel
theorem zd_Grid_link_11 : decode zc_Grid_link 11 = .ok (.iconst 0, 1) := by decide +kernel
theorem zd_Grid_link_12 : decode zc_Grid_link 12 = .ok (.iadd, 1) := by decide +kernel
theorem zd_Grid_link_13 : decode zc_Grid_link 13 = .ok (.iload_n 2, 1) := by decide +kernel
theorem zd_Grid_link_14 : decode zc_Grid_link 14 = .ok (.ifCond .le 9, 3) := by decide +kernel
theorem zd_Grid_link_23 : decode zc_Grid_link 23 = .ok (.iconst (-1), 1) := by decide +kernel
theorem zd_Grid_link_17 : decode zc_Grid_link 17 = .ok (.iload_n 1, 1) := by decide +kernel
theorem zd_Grid_link_18 : decode zc_Grid_link 18 = .ok (.iconst 1, 1) := by decide +kernel
theorem zd_Grid_link_19 : decode zc_Grid_link 19 = .ok (.isub, 1) := by decide +kernel
theorem zd_Grid_link_20 : decode zc_Grid_link 20 = .ok (.goto 4, 3) := by decide +kernel
theorem zd_Grid_hasPlace_28 : decode zc_Grid_hasPlace 28 = .ok (.iconst 0, 1) := by decide +kernel
theorem zd_Grid_hasPlace_29 : decode zc_Grid_hasPlace 29 = .ok (.ireturn, 1) := by decide +kernel
theorem zd_Grid_hasPlace_0 : decode zc_Grid_hasPlace 0 = .ok (.iload_n 1, 1) := by decide +kernel
theorem zd_Grid_hasPlace_1 : decode zc_Grid_hasPlace 1 = .ok (.ifCond .lt 27, 3) := by decide +kernel
theorem zd_Grid_hasPlace_4 : decode zc_Grid_hasPlace 4 = .ok (.iload_n 1, 1) := by decide +kernel
theorem zd_Grid_hasPlace_5 : decode zc_Grid_hasPlace 5 = .ok (.aload_n 0, 1) := by decide +kernel
theorem zd_Grid_hasPlace_6 : decode zc_Grid_hasPlace 6 = .ok (.getfield 9, 3) := by decide +kernel
theorem zd_Grid_hasPlace_9 : decode zc_Grid_hasPlace 9 = .ok (.if_icmp .ge 19, 3) := by decide +kernel
theorem zd_Grid_hasPlace_12 : decode zc_Grid_hasPlace 12 = .ok (.iload_n 2, 1) := by decide +kernel
theorem zd_Grid_hasPlace_13 : decode zc_Grid_hasPlace 13 = .ok (.ifCond .lt 15, 3) := by decide +kernel
theorem zd_Grid_hasPlace_16 : decode zc_Grid_hasPlace 16 = .ok (.iload_n 2, 1) := by decide +kernel
theorem zd_Grid_hasPlace_17 : decode zc_Grid_hasPlace 17 = .ok (.aload_n 0, 1) := by decide +kernel
theorem zd_Grid_hasPlace_18 : decode zc_Grid_hasPlace 18 = .ok (.getfield 15, 3) := by decide +kernel
theorem zd_Grid_hasPlace_21 : decode zc_Grid_hasPlace 21 = .ok (.if_icmp .ge 7, 3) := by decide +kernel
theorem zd_Grid_hasPlace_24 : decode zc_Grid_hasPlace 24 = .ok (.iconst 1, 1) := by decide +kernel
theorem zd_Grid_hasPlace_25 : decode zc_Grid_hasPlace 25 = .ok (.goto 4, 3) := by decide +kernel
theorem zd_Grid_hasCell_22 : decode zc_Grid_hasCell 22 = .ok (.iconst 0, 1) := by decide +kernel
theorem zd_Grid_hasCell_23 : decode zc_Grid_hasCell 23 = .ok (.ireturn, 1) := by decide +kernel
theorem zd_Grid_hasCell_0 : decode zc_Grid_hasCell 0 = .ok (.iload_n 1, 1) := by decide +kernel
theorem zd_Grid_hasCell_1 : decode zc_Grid_hasCell 1 = .ok (.ifCond .lt 21, 3) := by decide +kernel
theorem zd_Grid_hasCell_4 : decode zc_Grid_hasCell 4 = .ok (.iload_n 1, 1) := by decide +kernel
theorem zd_Grid_hasCell_5 : decode zc_Grid_hasCell 5 = .ok (.iconst 2, 1) := by decide +kernel
theorem zd_Grid_hasCell_6 : decode zc_Grid_hasCell 6 = .ok (.if_icmp .ge 16, 3) := by decide +kernel
theorem zd_Grid_hasCell_9 : decode zc_Grid_hasCell 9 = .ok (.aload_n 0, 1) := by decide +kernel
theorem zd_Grid_hasCell_10 : decode zc_Grid_hasCell 10 = .ok (.iload_n 2, 1) := by decide +kernel
theorem zd_Grid_hasCell_11 : decode zc_Grid_hasCell 11 = .ok (.iload_n 3, 1) := by decide +kernel
theorem zd_Grid_hasCell_12 : decode zc_Grid_hasCell 12 = .ok (.invokevirtual 38, 3) := by decide +kernel
theorem zd_Grid_hasCell_15 : decode zc_Grid_hasCell 15 = .ok (.ifCond .eq 7, 3) := by decide +kernel
theorem zd_Grid_hasCell_18 : decode zc_Grid_hasCell 18 = .ok (.iconst 1, 1) := by decide +kernel
theorem zd_Grid_hasCell_19 : decode zc_Grid_hasCell 19 = .ok (.goto 4, 3) := by decide +kernel
theorem zd_Grid_cellAt_0 : decode zc_Grid_cellAt 0 = .ok (.iload_n 1, 1) := by decide +kernel
theorem zd_Grid_cellAt_1 : decode zc_Grid_cellAt 1 = .ok (.aload_n 0, 1) := by decide +kernel
theorem zd_Grid_cellAt_2 : decode zc_Grid_cellAt 2 = .ok (.getfield 18, 3) := by decide +kernel
theorem zd_Grid_cellAt_5 : decode zc_Grid_cellAt 5 = .ok (.imul, 1) := by decide +kernel
theorem zd_Grid_cellAt_6 : decode zc_Grid_cellAt 6 = .ok (.iload_n 3, 1) := by decide +kernel
theorem zd_Grid_cellAt_7 : decode zc_Grid_cellAt 7 = .ok (.aload_n 0, 1) := by decide +kernel
theorem zd_Grid_cellAt_8 : decode zc_Grid_cellAt 8 = .ok (.getfield 9, 3) := by decide +kernel
theorem zd_Grid_cellAt_11 : decode zc_Grid_cellAt 11 = .ok (.imul, 1) := by decide +kernel
theorem zd_Grid_cellAt_12 : decode zc_Grid_cellAt 12 = .ok (.iadd, 1) := by decide +kernel
theorem zd_Grid_cellAt_13 : decode zc_Grid_cellAt 13 = .ok (.iload_n 2, 1) := by decide +kernel
theorem zd_Grid_cellAt_14 : decode zc_Grid_cellAt 14 = .ok (.iadd, 1) := by decide +kernel
theorem zd_Grid_cellAt_15 : decode zc_Grid_cellAt 15 = .ok (.ireturn, 1) := by decide +kernel
theorem zd_Grid_layerOf_13 : decode zc_Grid_layerOf 13 = .ok (.ireturn, 1) := by decide +kernel
theorem zd_Grid_layerOf_0 : decode zc_Grid_layerOf 0 = .ok (.iload_n 1, 1) := by decide +kernel
theorem zd_Grid_layerOf_1 : decode zc_Grid_layerOf 1 = .ok (.aload_n 0, 1) := by decide +kernel
theorem zd_Grid_layerOf_2 : decode zc_Grid_layerOf 2 = .ok (.getfield 18, 3) := by decide +kernel
theorem zd_Grid_layerOf_5 : decode zc_Grid_layerOf 5 = .ok (.if_icmp .ge 7, 3) := by decide +kernel
theorem zd_Grid_layerOf_12 : decode zc_Grid_layerOf 12 = .ok (.iconst 1, 1) := by decide +kernel
theorem zd_Grid_layerOf_8 : decode zc_Grid_layerOf 8 = .ok (.iconst 0, 1) := by decide +kernel
theorem zd_Grid_layerOf_9 : decode zc_Grid_layerOf 9 = .ok (.goto 4, 3) := by decide +kernel
theorem zd_Grid_placeOf_18 : decode zc_Grid_placeOf 18 = .ok (.ireturn, 1) := by decide +kernel
theorem zd_Grid_placeOf_0 : decode zc_Grid_placeOf 0 = .ok (.iload_n 1, 1) := by decide +kernel
theorem zd_Grid_placeOf_1 : decode zc_Grid_placeOf 1 = .ok (.aload_n 0, 1) := by decide +kernel
theorem zd_Grid_placeOf_2 : decode zc_Grid_placeOf 2 = .ok (.getfield 18, 3) := by decide +kernel
theorem zd_Grid_placeOf_5 : decode zc_Grid_placeOf 5 = .ok (.if_icmp .ge 7, 3) := by decide +kernel
theorem zd_Grid_placeOf_12 : decode zc_Grid_placeOf 12 = .ok (.iload_n 1, 1) := by decide +kernel
theorem zd_Grid_placeOf_13 : decode zc_Grid_placeOf 13 = .ok (.aload_n 0, 1) := by decide +kernel
theorem zd_Grid_placeOf_14 : decode zc_Grid_placeOf 14 = .ok (.getfield 18, 3) := by decide +kernel
theorem zd_Grid_placeOf_17 : decode zc_Grid_placeOf 17 = .ok (.isub, 1) := by decide +kernel
theorem zd_Grid_placeOf_8 : decode zc_Grid_placeOf 8 = .ok (.iload_n 1, 1) := by decide +kernel
theorem zd_Grid_placeOf_9 : decode zc_Grid_placeOf 9 = .ok (.goto 9, 3) := by decide +kernel
theorem zd_Grid_next_0 : decode zc_Grid_next 0 = .ok (.aload_n 0, 1) := by decide +kernel
theorem zd_Grid_next_1 : decode zc_Grid_next 1 = .ok (.getfield 31, 3) := by decide +kernel
theorem zd_Grid_next_4 : decode zc_Grid_next 4 = .ok (.iload_n 1, 1) := by decide +kernel
theorem zd_Grid_next_5 : decode zc_Grid_next 5 = .ok (.iconst 5, 1) := by decide +kernel
theorem zd_Grid_next_6 : decode zc_Grid_next 6 = .ok (.imul, 1) := by decide +kernel
theorem zd_Grid_next_7 : decode zc_Grid_next 7 = .ok (.iload_n 2, 1) := by decide +kernel
theorem zd_Grid_next_8 : decode zc_Grid_next 8 = .ok (.iadd, 1) := by decide +kernel
theorem zd_Grid_next_9 : decode zc_Grid_next 9 = .ok (.iaload, 1) := by decide +kernel
theorem zd_Grid_next_10 : decode zc_Grid_next 10 = .ok (.ireturn, 1) := by decide +kernel
theorem zd_Layout_strip_0 : decode zc_Layout_strip 0 = .ok (.aload_n 0, 1) := by decide +kernel
theorem zd_Layout_strip_1 : decode zc_Layout_strip 1 = .ok (.iload_n 1, 1) := by decide +kernel
theorem zd_Layout_strip_2 : decode zc_Layout_strip 2 = .ok (.invokevirtual 42, 3) := by decide +kernel
theorem zd_Layout_strip_5 : decode zc_Layout_strip 5 = .ok (.aload_n 0, 1) := by decide +kernel
theorem zd_Layout_strip_6 : decode zc_Layout_strip 6 = .ok (.iload_n 1, 1) := by decide +kernel
theorem zd_Layout_strip_7 : decode zc_Layout_strip 7 = .ok (.invokevirtual 46, 3) := by decide +kernel
theorem zd_Layout_strip_10 : decode zc_Layout_strip 10 = .ok (.return_, 1) := by decide +kernel
theorem zd_Layout_clear_2 : decode zc_Layout_clear 2 = .ok (.iload_n 2, 1) := by decide +kernel
theorem zd_Layout_clear_3 : decode zc_Layout_clear 3 = .ok (.aload_n 0, 1) := by decide +kernel
theorem zd_Layout_clear_4 : decode zc_Layout_clear 4 = .ok (.getfield 9, 3) := by decide +kernel
theorem zd_Layout_clear_7 : decode zc_Layout_clear 7 = .ok (.getfield 19, 3) := by decide +kernel
theorem zd_Layout_clear_10 : decode zc_Layout_clear 10 = .ok (.if_icmp .ge 40, 3) := by decide +kernel
theorem zd_Layout_clear_50 : decode zc_Layout_clear 50 = .ok (.return_, 1) := by decide +kernel
theorem zd_Layout_clear_13 : decode zc_Layout_clear 13 = .ok (.aload_n 0, 1) := by decide +kernel
theorem zd_Layout_clear_14 : decode zc_Layout_clear 14 = .ok (.getfield 25, 3) := by decide +kernel
theorem zd_Layout_clear_17 : decode zc_Layout_clear 17 = .ok (.iload_n 2, 1) := by decide +kernel
theorem zd_Layout_clear_18 : decode zc_Layout_clear 18 = .ok (.iaload, 1) := by decide +kernel
theorem zd_Layout_clear_19 : decode zc_Layout_clear 19 = .ok (.iload_n 1, 1) := by decide +kernel
theorem zd_Layout_clear_20 : decode zc_Layout_clear 20 = .ok (.if_icmp .ne 24, 3) := by decide +kernel
theorem zd_Layout_clear_23 : decode zc_Layout_clear 23 = .ok (.aload_n 0, 1) := by decide +kernel
theorem zd_Layout_clear_24 : decode zc_Layout_clear 24 = .ok (.getfield 25, 3) := by decide +kernel
theorem zd_Layout_clear_27 : decode zc_Layout_clear 27 = .ok (.iload_n 2, 1) := by decide +kernel
theorem zd_Layout_clear_28 : decode zc_Layout_clear 28 = .ok (.iconst (-1), 1) := by decide +kernel
theorem zd_Layout_clear_29 : decode zc_Layout_clear 29 = .ok (.iastore, 1) := by decide +kernel
theorem zd_Layout_clear_30 : decode zc_Layout_clear 30 = .ok (.aload_n 0, 1) := by decide +kernel
theorem zd_Layout_clear_31 : decode zc_Layout_clear 31 = .ok (.getfield 32, 3) := by decide +kernel
theorem zd_Layout_clear_34 : decode zc_Layout_clear 34 = .ok (.aload_n 0, 1) := by decide +kernel
theorem zd_Layout_clear_35 : decode zc_Layout_clear 35 = .ok (.getfield 9, 3) := by decide +kernel
theorem zd_Layout_clear_38 : decode zc_Layout_clear 38 = .ok (.iload_n 2, 1) := by decide +kernel
theorem zd_Layout_clear_39 : decode zc_Layout_clear 39 = .ok (.invokevirtual 49, 3) := by decide +kernel
theorem zd_Layout_clear_42 : decode zc_Layout_clear 42 = .ok (.iconst 0, 1) := by decide +kernel
theorem zd_Layout_clear_43 : decode zc_Layout_clear 43 = .ok (.bastore, 1) := by decide +kernel
theorem zd_Layout_clear_44 : decode zc_Layout_clear 44 = .ok (.iinc 2 1, 3) := by decide +kernel
theorem zd_Layout_clear_47 : decode zc_Layout_clear 47 = .ok (.goto (-45), 3) := by decide +kernel
theorem zd_Layout_clear_0 : decode zc_Layout_clear 0 = .ok (.iconst 0, 1) := by decide +kernel
theorem zd_Layout_clear_1 : decode zc_Layout_clear 1 = .ok (.istore_n 2, 1) := by decide +kernel
theorem zd_Layout_restorePins_0 : decode zc_Layout_restorePins 0 = .ok (.aload_n 0, 1) := by decide +kernel
theorem zd_Layout_restorePins_1 : decode zc_Layout_restorePins 1 = .ok (.getfield 25, 3) := by decide +kernel
theorem zd_Layout_restorePins_4 : decode zc_Layout_restorePins 4 = .ok (.aload_n 0, 1) := by decide +kernel
theorem zd_Layout_restorePins_5 : decode zc_Layout_restorePins 5 = .ok (.getfield 15, 3) := by decide +kernel
theorem zd_Layout_restorePins_8 : decode zc_Layout_restorePins 8 = .ok (.getfield 53, 3) := by decide +kernel
theorem zd_Layout_restorePins_11 : decode zc_Layout_restorePins 11 = .ok (.iload_n 1, 1) := by decide +kernel
theorem zd_Layout_restorePins_12 : decode zc_Layout_restorePins 12 = .ok (.iaload, 1) := by decide +kernel
theorem zd_Layout_restorePins_13 : decode zc_Layout_restorePins 13 = .ok (.iload_n 1, 1) := by decide +kernel
theorem zd_Layout_restorePins_14 : decode zc_Layout_restorePins 14 = .ok (.iastore, 1) := by decide +kernel
theorem zd_Layout_restorePins_15 : decode zc_Layout_restorePins 15 = .ok (.aload_n 0, 1) := by decide +kernel
theorem zd_Layout_restorePins_16 : decode zc_Layout_restorePins 16 = .ok (.getfield 25, 3) := by decide +kernel
theorem zd_Layout_restorePins_19 : decode zc_Layout_restorePins 19 = .ok (.aload_n 0, 1) := by decide +kernel
theorem zd_Layout_restorePins_20 : decode zc_Layout_restorePins 20 = .ok (.getfield 15, 3) := by decide +kernel
theorem zd_Layout_restorePins_23 : decode zc_Layout_restorePins 23 = .ok (.getfield 58, 3) := by decide +kernel
theorem zd_Layout_restorePins_26 : decode zc_Layout_restorePins 26 = .ok (.iload_n 1, 1) := by decide +kernel
theorem zd_Layout_restorePins_27 : decode zc_Layout_restorePins 27 = .ok (.iaload, 1) := by decide +kernel
theorem zd_Layout_restorePins_28 : decode zc_Layout_restorePins 28 = .ok (.iload_n 1, 1) := by decide +kernel
theorem zd_Layout_restorePins_29 : decode zc_Layout_restorePins 29 = .ok (.iastore, 1) := by decide +kernel
theorem zd_Layout_restorePins_30 : decode zc_Layout_restorePins 30 = .ok (.return_, 1) := by decide +kernel
theorem zd_Line_isEmpty_12 : decode zc_Line_isEmpty 12 = .ok (.ireturn, 1) := by decide +kernel
theorem zd_Line_isEmpty_0 : decode zc_Line_isEmpty 0 = .ok (.aload_n 0, 1) := by decide +kernel
theorem zd_Line_isEmpty_1 : decode zc_Line_isEmpty 1 = .ok (.getfield 15, 3) := by decide +kernel
theorem zd_Line_isEmpty_4 : decode zc_Line_isEmpty 4 = .ok (.ifCond .ne 7, 3) := by decide +kernel
theorem zd_Line_isEmpty_11 : decode zc_Line_isEmpty 11 = .ok (.iconst 0, 1) := by decide +kernel
theorem zd_Line_isEmpty_7 : decode zc_Line_isEmpty 7 = .ok (.iconst 1, 1) := by decide +kernel
theorem zd_Line_isEmpty_8 : decode zc_Line_isEmpty 8 = .ok (.goto 4, 3) := by decide +kernel
theorem zd_Line_join_2 : decode zc_Line_join 2 = .ok (.iload_n 2, 1) := by decide +kernel
theorem zd_Line_join_3 : decode zc_Line_join 3 = .ok (.aload_n 0, 1) := by decide +kernel
theorem zd_Line_join_4 : decode zc_Line_join 4 = .ok (.getfield 15, 3) := by decide +kernel
theorem zd_Line_join_7 : decode zc_Line_join 7 = .ok (.if_icmp .ge 20, 3) := by decide +kernel
theorem zd_Line_join_27 : decode zc_Line_join 27 = .ok (.aload_n 0, 1) := by decide +kernel
theorem zd_Line_join_28 : decode zc_Line_join 28 = .ok (.getfield 9, 3) := by decide +kernel
theorem zd_Line_join_31 : decode zc_Line_join 31 = .ok (.aload_n 0, 1) := by decide +kernel
theorem zd_Line_join_32 : decode zc_Line_join 32 = .ok (.getfield 15, 3) := by decide +kernel
theorem zd_Line_join_35 : decode zc_Line_join 35 = .ok (.iload_n 1, 1) := by decide +kernel
theorem zd_Line_join_36 : decode zc_Line_join 36 = .ok (.iastore, 1) := by decide +kernel
theorem zd_Line_join_37 : decode zc_Line_join 37 = .ok (.aload_n 0, 1) := by decide +kernel
theorem zd_Line_join_38 : decode zc_Line_join 38 = .ok (.dup, 1) := by decide +kernel
theorem zd_Line_join_39 : decode zc_Line_join 39 = .ok (.getfield 15, 3) := by decide +kernel
theorem zd_Line_join_42 : decode zc_Line_join 42 = .ok (.iconst 1, 1) := by decide +kernel
theorem zd_Line_join_43 : decode zc_Line_join 43 = .ok (.iadd, 1) := by decide +kernel
theorem zd_Line_join_44 : decode zc_Line_join 44 = .ok (.putfield 15, 3) := by decide +kernel
theorem zd_Line_join_47 : decode zc_Line_join 47 = .ok (.return_, 1) := by decide +kernel
theorem zd_Line_join_10 : decode zc_Line_join 10 = .ok (.aload_n 0, 1) := by decide +kernel
theorem zd_Line_join_11 : decode zc_Line_join 11 = .ok (.getfield 9, 3) := by decide +kernel
theorem zd_Line_join_14 : decode zc_Line_join 14 = .ok (.iload_n 2, 1) := by decide +kernel
theorem zd_Line_join_15 : decode zc_Line_join 15 = .ok (.iaload, 1) := by decide +kernel
theorem zd_Line_join_16 : decode zc_Line_join 16 = .ok (.iload_n 1, 1) := by decide +kernel
theorem zd_Line_join_17 : decode zc_Line_join 17 = .ok (.if_icmp .ne 4, 3) := by decide +kernel
theorem zd_Line_join_21 : decode zc_Line_join 21 = .ok (.iinc 2 1, 3) := by decide +kernel
theorem zd_Line_join_24 : decode zc_Line_join 24 = .ok (.goto (-22), 3) := by decide +kernel
theorem zd_Line_join_20 : decode zc_Line_join 20 = .ok (.return_, 1) := by decide +kernel
theorem zd_Line_join_0 : decode zc_Line_join 0 = .ok (.iconst 0, 1) := by decide +kernel
theorem zd_Line_join_1 : decode zc_Line_join 1 = .ok (.istore_n 2, 1) := by decide +kernel
theorem zd_Line_leave_0 : decode zc_Line_leave 0 = .ok (.aload_n 0, 1) := by decide +kernel
theorem zd_Line_leave_1 : decode zc_Line_leave 1 = .ok (.getfield 9, 3) := by decide +kernel
theorem zd_Line_leave_4 : decode zc_Line_leave 4 = .ok (.iconst 0, 1) := by decide +kernel
theorem zd_Line_leave_5 : decode zc_Line_leave 5 = .ok (.iaload, 1) := by decide +kernel
theorem zd_Line_leave_6 : decode zc_Line_leave 6 = .ok (.istore_n 1, 1) := by decide +kernel
theorem zd_Line_leave_7 : decode zc_Line_leave 7 = .ok (.aload_n 0, 1) := by decide +kernel
theorem zd_Line_leave_8 : decode zc_Line_leave 8 = .ok (.dup, 1) := by decide +kernel
theorem zd_Line_leave_9 : decode zc_Line_leave 9 = .ok (.getfield 15, 3) := by decide +kernel
theorem zd_Line_leave_12 : decode zc_Line_leave 12 = .ok (.iconst 1, 1) := by decide +kernel
theorem zd_Line_leave_13 : decode zc_Line_leave 13 = .ok (.isub, 1) := by decide +kernel
theorem zd_Line_leave_14 : decode zc_Line_leave 14 = .ok (.putfield 15, 3) := by decide +kernel
theorem zd_Line_leave_17 : decode zc_Line_leave 17 = .ok (.aload_n 0, 1) := by decide +kernel
theorem zd_Line_leave_18 : decode zc_Line_leave 18 = .ok (.getfield 9, 3) := by decide +kernel
theorem zd_Line_leave_21 : decode zc_Line_leave 21 = .ok (.iconst 1, 1) := by decide +kernel
theorem zd_Line_leave_22 : decode zc_Line_leave 22 = .ok (.aload_n 0, 1) := by decide +kernel
theorem zd_Line_leave_23 : decode zc_Line_leave 23 = .ok (.getfield 9, 3) := by decide +kernel
theorem zd_Line_leave_26 : decode zc_Line_leave 26 = .ok (.iconst 0, 1) := by decide +kernel
theorem zd_Line_leave_27 : decode zc_Line_leave 27 = .ok (.aload_n 0, 1) := by decide +kernel
theorem zd_Line_leave_28 : decode zc_Line_leave 28 = .ok (.getfield 15, 3) := by decide +kernel
theorem zd_Line_leave_31 : decode zc_Line_leave 31 = .ok (.invokestatic 19, 3) := by decide +kernel
theorem zd_Line_leave_34 : decode zc_Line_leave 34 = .ok (.iload_n 1, 1) := by decide +kernel
theorem zd_Line_leave_35 : decode zc_Line_leave 35 = .ok (.ireturn, 1) := by decide +kernel
theorem zd_Line_sortBySpan_2 : decode zc_Line_sortBySpan 2 = .ok (.iload_n 2, 1) := by decide +kernel
theorem zd_Line_sortBySpan_3 : decode zc_Line_sortBySpan 3 = .ok (.aload_n 0, 1) := by decide +kernel
theorem zd_Line_sortBySpan_4 : decode zc_Line_sortBySpan 4 = .ok (.getfield 15, 3) := by decide +kernel
theorem zd_Line_sortBySpan_7 : decode zc_Line_sortBySpan 7 = .ok (.if_icmp .ge 75, 3) := by decide +kernel
theorem zd_Line_sortBySpan_82 : decode zc_Line_sortBySpan 82 = .ok (.return_, 1) := by decide +kernel
theorem zd_Line_sortBySpan_10 : decode zc_Line_sortBySpan 10 = .ok (.aload_n 0, 1) := by decide +kernel
theorem zd_Line_sortBySpan_11 : decode zc_Line_sortBySpan 11 = .ok (.getfield 9, 3) := by decide +kernel
theorem zd_Line_sortBySpan_14 : decode zc_Line_sortBySpan 14 = .ok (.iload_n 2, 1) := by decide +kernel
theorem zd_Line_sortBySpan_15 : decode zc_Line_sortBySpan 15 = .ok (.iaload, 1) := by decide +kernel
theorem zd_Line_sortBySpan_16 : decode zc_Line_sortBySpan 16 = .ok (.istore_n 3, 1) := by decide +kernel
theorem zd_Line_sortBySpan_17 : decode zc_Line_sortBySpan 17 = .ok (.iload_n 2, 1) := by decide +kernel
theorem zd_Line_sortBySpan_18 : decode zc_Line_sortBySpan 18 = .ok (.istore 4, 2) := by decide +kernel
theorem zd_Line_sortBySpan_20 : decode zc_Line_sortBySpan 20 = .ok (.iload 4, 2) := by decide +kernel
theorem zd_Line_sortBySpan_22 : decode zc_Line_sortBySpan 22 = .ok (.ifCond .le 46, 3) := by decide +kernel
theorem zd_Line_sortBySpan_25 : decode zc_Line_sortBySpan 25 = .ok (.aload_n 1, 1) := by decide +kernel
theorem zd_Line_sortBySpan_26 : decode zc_Line_sortBySpan 26 = .ok (.aload_n 0, 1) := by decide +kernel
theorem zd_Line_sortBySpan_27 : decode zc_Line_sortBySpan 27 = .ok (.getfield 9, 3) := by decide +kernel
theorem zd_Line_sortBySpan_30 : decode zc_Line_sortBySpan 30 = .ok (.iload 4, 2) := by decide +kernel
theorem zd_Line_sortBySpan_32 : decode zc_Line_sortBySpan 32 = .ok (.iconst 1, 1) := by decide +kernel
theorem zd_Line_sortBySpan_33 : decode zc_Line_sortBySpan 33 = .ok (.isub, 1) := by decide +kernel
theorem zd_Line_sortBySpan_34 : decode zc_Line_sortBySpan 34 = .ok (.iaload, 1) := by decide +kernel
theorem zd_Line_sortBySpan_35 : decode zc_Line_sortBySpan 35 = .ok (.invokevirtual 25, 3) := by decide +kernel
theorem zd_Line_sortBySpan_38 : decode zc_Line_sortBySpan 38 = .ok (.aload_n 1, 1) := by decide +kernel
theorem zd_Line_sortBySpan_39 : decode zc_Line_sortBySpan 39 = .ok (.iload_n 3, 1) := by decide +kernel
theorem zd_Line_sortBySpan_40 : decode zc_Line_sortBySpan 40 = .ok (.invokevirtual 25, 3) := by decide +kernel
theorem zd_Line_sortBySpan_43 : decode zc_Line_sortBySpan 43 = .ok (.if_icmp .le 25, 3) := by decide +kernel
theorem zd_Line_sortBySpan_46 : decode zc_Line_sortBySpan 46 = .ok (.aload_n 0, 1) := by decide +kernel
theorem zd_Line_sortBySpan_47 : decode zc_Line_sortBySpan 47 = .ok (.getfield 9, 3) := by decide +kernel
theorem zd_Line_sortBySpan_50 : decode zc_Line_sortBySpan 50 = .ok (.iload 4, 2) := by decide +kernel
theorem zd_Line_sortBySpan_52 : decode zc_Line_sortBySpan 52 = .ok (.aload_n 0, 1) := by decide +kernel
theorem zd_Line_sortBySpan_53 : decode zc_Line_sortBySpan 53 = .ok (.getfield 9, 3) := by decide +kernel
theorem zd_Line_sortBySpan_56 : decode zc_Line_sortBySpan 56 = .ok (.iload 4, 2) := by decide +kernel
theorem zd_Line_sortBySpan_58 : decode zc_Line_sortBySpan 58 = .ok (.iconst 1, 1) := by decide +kernel
theorem zd_Line_sortBySpan_59 : decode zc_Line_sortBySpan 59 = .ok (.isub, 1) := by decide +kernel
theorem zd_Line_sortBySpan_60 : decode zc_Line_sortBySpan 60 = .ok (.iaload, 1) := by decide +kernel
theorem zd_Line_sortBySpan_61 : decode zc_Line_sortBySpan 61 = .ok (.iastore, 1) := by decide +kernel
theorem zd_Line_sortBySpan_62 : decode zc_Line_sortBySpan 62 = .ok (.iinc 4 (-1), 3) := by decide +kernel
theorem zd_Line_sortBySpan_65 : decode zc_Line_sortBySpan 65 = .ok (.goto (-45), 3) := by decide +kernel
theorem zd_Line_sortBySpan_68 : decode zc_Line_sortBySpan 68 = .ok (.aload_n 0, 1) := by decide +kernel
theorem zd_Line_sortBySpan_69 : decode zc_Line_sortBySpan 69 = .ok (.getfield 9, 3) := by decide +kernel
theorem zd_Line_sortBySpan_72 : decode zc_Line_sortBySpan 72 = .ok (.iload 4, 2) := by decide +kernel
theorem zd_Line_sortBySpan_74 : decode zc_Line_sortBySpan 74 = .ok (.iload_n 3, 1) := by decide +kernel
theorem zd_Line_sortBySpan_75 : decode zc_Line_sortBySpan 75 = .ok (.iastore, 1) := by decide +kernel
theorem zd_Line_sortBySpan_76 : decode zc_Line_sortBySpan 76 = .ok (.iinc 2 1, 3) := by decide +kernel
theorem zd_Line_sortBySpan_79 : decode zc_Line_sortBySpan 79 = .ok (.goto (-77), 3) := by decide +kernel
theorem zd_Line_sortBySpan_0 : decode zc_Line_sortBySpan 0 = .ok (.iconst 1, 1) := by decide +kernel
theorem zd_Line_sortBySpan_1 : decode zc_Line_sortBySpan 1 = .ok (.istore_n 2, 1) := by decide +kernel
theorem zd_Nets_has_16 : decode zc_Nets_has 16 = .ok (.iconst 0, 1) := by decide +kernel
theorem zd_Nets_has_17 : decode zc_Nets_has 17 = .ok (.ireturn, 1) := by decide +kernel
theorem zd_Nets_has_0 : decode zc_Nets_has 0 = .ok (.iload_n 1, 1) := by decide +kernel
theorem zd_Nets_has_1 : decode zc_Nets_has 1 = .ok (.ifCond .lt 15, 3) := by decide +kernel
theorem zd_Nets_has_4 : decode zc_Nets_has 4 = .ok (.iload_n 1, 1) := by decide +kernel
theorem zd_Nets_has_5 : decode zc_Nets_has 5 = .ok (.aload_n 0, 1) := by decide +kernel
theorem zd_Nets_has_6 : decode zc_Nets_has 6 = .ok (.getfield 18, 3) := by decide +kernel
theorem zd_Nets_has_9 : decode zc_Nets_has 9 = .ok (.if_icmp .ge 7, 3) := by decide +kernel
theorem zd_Nets_has_12 : decode zc_Nets_has 12 = .ok (.iconst 1, 1) := by decide +kernel
theorem zd_Nets_has_13 : decode zc_Nets_has 13 = .ok (.goto 4, 3) := by decide +kernel
theorem zd_Nets_add_0 : decode zc_Nets_add 0 = .ok (.aload_n 0, 1) := by decide +kernel
theorem zd_Nets_add_1 : decode zc_Nets_add 1 = .ok (.getfield 18, 3) := by decide +kernel
theorem zd_Nets_add_4 : decode zc_Nets_add 4 = .ok (.istore_n 3, 1) := by decide +kernel
theorem zd_Nets_add_5 : decode zc_Nets_add 5 = .ok (.aload_n 0, 1) := by decide +kernel
theorem zd_Nets_add_6 : decode zc_Nets_add 6 = .ok (.getfield 9, 3) := by decide +kernel
theorem zd_Nets_add_9 : decode zc_Nets_add 9 = .ok (.iload_n 3, 1) := by decide +kernel
theorem zd_Nets_add_10 : decode zc_Nets_add 10 = .ok (.iload_n 1, 1) := by decide +kernel
theorem zd_Nets_add_11 : decode zc_Nets_add 11 = .ok (.iastore, 1) := by decide +kernel
theorem zd_Nets_add_12 : decode zc_Nets_add 12 = .ok (.aload_n 0, 1) := by decide +kernel
theorem zd_Nets_add_13 : decode zc_Nets_add 13 = .ok (.getfield 15, 3) := by decide +kernel
theorem zd_Nets_add_16 : decode zc_Nets_add 16 = .ok (.iload_n 3, 1) := by decide +kernel
theorem zd_Nets_add_17 : decode zc_Nets_add 17 = .ok (.iload_n 2, 1) := by decide +kernel
theorem zd_Nets_add_18 : decode zc_Nets_add 18 = .ok (.iastore, 1) := by decide +kernel
theorem zd_Nets_add_19 : decode zc_Nets_add 19 = .ok (.aload_n 0, 1) := by decide +kernel
theorem zd_Nets_add_20 : decode zc_Nets_add 20 = .ok (.getfield 31, 3) := by decide +kernel
theorem zd_Nets_add_23 : decode zc_Nets_add 23 = .ok (.iload_n 1, 1) := by decide +kernel
theorem zd_Nets_add_24 : decode zc_Nets_add 24 = .ok (.iload_n 3, 1) := by decide +kernel
theorem zd_Nets_add_25 : decode zc_Nets_add 25 = .ok (.iastore, 1) := by decide +kernel
theorem zd_Nets_add_26 : decode zc_Nets_add 26 = .ok (.aload_n 0, 1) := by decide +kernel
theorem zd_Nets_add_27 : decode zc_Nets_add 27 = .ok (.getfield 31, 3) := by decide +kernel
theorem zd_Nets_add_30 : decode zc_Nets_add 30 = .ok (.iload_n 2, 1) := by decide +kernel
theorem zd_Nets_add_31 : decode zc_Nets_add 31 = .ok (.iload_n 3, 1) := by decide +kernel
theorem zd_Nets_add_32 : decode zc_Nets_add 32 = .ok (.iastore, 1) := by decide +kernel
theorem zd_Nets_add_33 : decode zc_Nets_add 33 = .ok (.aload_n 0, 1) := by decide +kernel
theorem zd_Nets_add_34 : decode zc_Nets_add 34 = .ok (.dup, 1) := by decide +kernel
theorem zd_Nets_add_35 : decode zc_Nets_add 35 = .ok (.getfield 18, 3) := by decide +kernel
theorem zd_Nets_add_38 : decode zc_Nets_add 38 = .ok (.iconst 1, 1) := by decide +kernel
theorem zd_Nets_add_39 : decode zc_Nets_add 39 = .ok (.iadd, 1) := by decide +kernel
theorem zd_Nets_add_40 : decode zc_Nets_add 40 = .ok (.putfield 18, 3) := by decide +kernel
theorem zd_Nets_add_43 : decode zc_Nets_add 43 = .ok (.iload_n 3, 1) := by decide +kernel
theorem zd_Nets_add_44 : decode zc_Nets_add 44 = .ok (.ireturn, 1) := by decide +kernel
theorem zd_Nets_span_0 : decode zc_Nets_span 0 = .ok (.aload_n 0, 1) := by decide +kernel
theorem zd_Nets_span_1 : decode zc_Nets_span 1 = .ok (.getfield 9, 3) := by decide +kernel
theorem zd_Nets_span_4 : decode zc_Nets_span 4 = .ok (.iload_n 1, 1) := by decide +kernel
theorem zd_Nets_span_5 : decode zc_Nets_span 5 = .ok (.iaload, 1) := by decide +kernel
theorem zd_Nets_span_6 : decode zc_Nets_span 6 = .ok (.istore_n 2, 1) := by decide +kernel
theorem zd_Nets_span_7 : decode zc_Nets_span 7 = .ok (.aload_n 0, 1) := by decide +kernel
theorem zd_Nets_span_8 : decode zc_Nets_span 8 = .ok (.getfield 15, 3) := by decide +kernel
theorem zd_Nets_span_11 : decode zc_Nets_span 11 = .ok (.iload_n 1, 1) := by decide +kernel
theorem zd_Nets_span_12 : decode zc_Nets_span 12 = .ok (.iaload, 1) := by decide +kernel
theorem zd_Nets_span_13 : decode zc_Nets_span 13 = .ok (.istore_n 3, 1) := by decide +kernel
theorem zd_Nets_span_14 : decode zc_Nets_span 14 = .ok (.aload_n 0, 1) := by decide +kernel
theorem zd_Nets_span_15 : decode zc_Nets_span 15 = .ok (.getfield 22, 3) := by decide +kernel
theorem zd_Nets_span_18 : decode zc_Nets_span 18 = .ok (.iload_n 2, 1) := by decide +kernel
theorem zd_Nets_span_19 : decode zc_Nets_span 19 = .ok (.invokevirtual 40, 3) := by decide +kernel
theorem zd_Nets_span_22 : decode zc_Nets_span 22 = .ok (.aload_n 0, 1) := by decide +kernel
theorem zd_Nets_span_23 : decode zc_Nets_span 23 = .ok (.getfield 22, 3) := by decide +kernel
theorem zd_Nets_span_26 : decode zc_Nets_span 26 = .ok (.iload_n 3, 1) := by decide +kernel
theorem zd_Nets_span_27 : decode zc_Nets_span 27 = .ok (.invokevirtual 40, 3) := by decide +kernel
theorem zd_Nets_span_30 : decode zc_Nets_span 30 = .ok (.isub, 1) := by decide +kernel
theorem zd_Nets_span_31 : decode zc_Nets_span 31 = .ok (.invokestatic 44, 3) := by decide +kernel
theorem zd_Nets_span_34 : decode zc_Nets_span 34 = .ok (.aload_n 0, 1) := by decide +kernel
theorem zd_Nets_span_35 : decode zc_Nets_span 35 = .ok (.getfield 22, 3) := by decide +kernel
theorem zd_Nets_span_38 : decode zc_Nets_span 38 = .ok (.getfield 49, 3) := by decide +kernel
theorem zd_Nets_span_41 : decode zc_Nets_span 41 = .ok (.iload_n 2, 1) := by decide +kernel
theorem zd_Nets_span_42 : decode zc_Nets_span 42 = .ok (.iaload, 1) := by decide +kernel
theorem zd_Nets_span_43 : decode zc_Nets_span 43 = .ok (.aload_n 0, 1) := by decide +kernel

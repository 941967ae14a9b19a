theorem zd_Mo_stitch_70 : decode zc_Mo_stitch 70 = .ok (.imul, 1) := by decide +kernel
theorem zd_Mo_stitch_71 : decode zc_Mo_stitch 71 = .ok (.iload_n 1, 1) := by decide +kernel
theorem zd_Mo_stitch_72 : decode zc_Mo_stitch 72 = .ok (.iadd, 1) := by decide +kernel
theorem zd_Mo_stitch_73 : decode zc_Mo_stitch 73 = .ok (.baload, 1) := by decide +kernel
theorem zd_Mo_stitch_74 : decode zc_Mo_stitch 74 = .ok (.ireturn, 1) := by decide +kernel
theorem zd_Mo_stitch_0 : decode zc_Mo_stitch 0 = .ok (.aload_n 0, 1) := by decide +kernel
theorem zd_Mo_stitch_1 : decode zc_Mo_stitch 1 = .ok (.aload_n 0, 1) := by decide +kernel
theorem zd_Mo_stitch_2 : decode zc_Mo_stitch 2 = .ok (.iload_n 1, 1) := by decide +kernel
theorem zd_Mo_stitch_3 : decode zc_Mo_stitch 3 = .ok (.iload_n 2, 1) := by decide +kernel
theorem zd_Mo_stitch_4 : decode zc_Mo_stitch 4 = .ok (.invokevirtual 61, 3) := by decide +kernel
theorem zd_Mo_stitch_7 : decode zc_Mo_stitch 7 = .ok (.ifCond .eq 7, 3) := by decide +kernel
theorem zd_Mo_stitch_14 : decode zc_Mo_stitch 14 = .ok (.iconst 1, 1) := by decide +kernel
theorem zd_Mo_stitch_10 : decode zc_Mo_stitch 10 = .ok (.iconst 0, 1) := by decide +kernel
theorem zd_Mo_stitch_11 : decode zc_Mo_stitch 11 = .ok (.goto 4, 3) := by decide +kernel
theorem zd_Mo_cell_21 : decode zc_Mo_cell 21 = .ok (.putfield 58, 3) := by decide +kernel
theorem zd_Mo_cell_24 : decode zc_Mo_cell 24 = .ok (.aload_n 0, 1) := by decide +kernel
theorem zd_Mo_cell_25 : decode zc_Mo_cell 25 = .ok (.getfield 58, 3) := by decide +kernel
theorem zd_Mo_cell_28 : decode zc_Mo_cell 28 = .ok (.ifCond .ne 13, 3) := by decide +kernel
theorem zd_Mo_cell_41 : decode zc_Mo_cell 41 = .ok (.iconst 0, 1) := by decide +kernel
theorem zd_Mo_cell_31 : decode zc_Mo_cell 31 = .ok (.aload_n 0, 1) := by decide +kernel
theorem zd_Mo_cell_32 : decode zc_Mo_cell 32 = .ok (.getfield 17, 3) := by decide +kernel
theorem zd_Mo_cell_35 : decode zc_Mo_cell 35 = .ok (.iload 4, 2) := by decide +kernel
theorem zd_Mo_cell_37 : decode zc_Mo_cell 37 = .ok (.iaload, 1) := by decide +kernel
theorem zd_Mo_cell_38 : decode zc_Mo_cell 38 = .ok (.goto 4, 3) := by decide +kernel
theorem zd_Mo_cell_42 : decode zc_Mo_cell 42 = .ok (.ireturn, 1) := by decide +kernel
theorem zd_Mo_cell_0 : decode zc_Mo_cell 0 = .ok (.aload_n 0, 1) := by decide +kernel
theorem zd_Mo_cell_1 : decode zc_Mo_cell 1 = .ok (.iload_n 1, 1) := by decide +kernel
theorem zd_Mo_cell_2 : decode zc_Mo_cell 2 = .ok (.iload_n 2, 1) := by decide +kernel
theorem zd_Mo_cell_3 : decode zc_Mo_cell 3 = .ok (.iload_n 3, 1) := by decide +kernel
theorem zd_Mo_cell_4 : decode zc_Mo_cell 4 = .ok (.invokevirtual 65, 3) := by decide +kernel
theorem zd_Mo_cell_7 : decode zc_Mo_cell 7 = .ok (.istore 4, 2) := by decide +kernel
theorem zd_Mo_cell_9 : decode zc_Mo_cell 9 = .ok (.aload_n 0, 1) := by decide +kernel
theorem zd_Mo_cell_10 : decode zc_Mo_cell 10 = .ok (.iload 4, 2) := by decide +kernel
theorem zd_Mo_cell_12 : decode zc_Mo_cell 12 = .ok (.iconst (-1), 1) := by decide +kernel
theorem zd_Mo_cell_13 : decode zc_Mo_cell 13 = .ok (.if_icmp .ne 7, 3) := by decide +kernel
theorem zd_Mo_cell_20 : decode zc_Mo_cell 20 = .ok (.iconst 0, 1) := by decide +kernel
theorem zd_Mo_cell_16 : decode zc_Mo_cell 16 = .ok (.iconst 1, 1) := by decide +kernel
theorem zd_Mo_cell_17 : decode zc_Mo_cell 17 = .ok (.goto 4, 3) := by decide +kernel
theorem zd_Mo_via_15 : decode zc_Mo_via 15 = .ok (.putfield 58, 3) := by decide +kernel
theorem zd_Mo_via_18 : decode zc_Mo_via 18 = .ok (.aload_n 0, 1) := by decide +kernel
theorem zd_Mo_via_19 : decode zc_Mo_via 19 = .ok (.getfield 58, 3) := by decide +kernel
theorem zd_Mo_via_22 : decode zc_Mo_via 22 = .ok (.ifCond .ne 23, 3) := by decide +kernel
theorem zd_Mo_via_25 : decode zc_Mo_via 25 = .ok (.aload_n 0, 1) := by decide +kernel
theorem zd_Mo_via_26 : decode zc_Mo_via 26 = .ok (.getfield 20, 3) := by decide +kernel
theorem zd_Mo_via_29 : decode zc_Mo_via 29 = .ok (.iload_n 2, 1) := by decide +kernel
theorem zd_Mo_via_30 : decode zc_Mo_via 30 = .ok (.aload_n 0, 1) := by decide +kernel
theorem zd_Mo_via_31 : decode zc_Mo_via 31 = .ok (.getfield 44, 3) := by decide +kernel
theorem zd_Mo_via_34 : decode zc_Mo_via 34 = .ok (.imul, 1) := by decide +kernel
theorem zd_Mo_via_35 : decode zc_Mo_via 35 = .ok (.iload_n 1, 1) := by decide +kernel
theorem zd_Mo_via_36 : decode zc_Mo_via 36 = .ok (.iadd, 1) := by decide +kernel
theorem zd_Mo_via_37 : decode zc_Mo_via 37 = .ok (.baload, 1) := by decide +kernel
theorem zd_Mo_via_38 : decode zc_Mo_via 38 = .ok (.ifCond .eq 7, 3) := by decide +kernel
theorem zd_Mo_via_41 : decode zc_Mo_via 41 = .ok (.iconst 1, 1) := by decide +kernel
theorem zd_Mo_via_42 : decode zc_Mo_via 42 = .ok (.goto 4, 3) := by decide +kernel
theorem zd_Mo_via_45 : decode zc_Mo_via 45 = .ok (.iconst 0, 1) := by decide +kernel
theorem zd_Mo_via_46 : decode zc_Mo_via 46 = .ok (.ireturn, 1) := by decide +kernel
theorem zd_Mo_via_0 : decode zc_Mo_via 0 = .ok (.aload_n 0, 1) := by decide +kernel
theorem zd_Mo_via_1 : decode zc_Mo_via 1 = .ok (.aload_n 0, 1) := by decide +kernel
theorem zd_Mo_via_2 : decode zc_Mo_via 2 = .ok (.iload_n 1, 1) := by decide +kernel
theorem zd_Mo_via_3 : decode zc_Mo_via 3 = .ok (.iload_n 2, 1) := by decide +kernel
theorem zd_Mo_via_4 : decode zc_Mo_via 4 = .ok (.invokevirtual 61, 3) := by decide +kernel
theorem zd_Mo_via_7 : decode zc_Mo_via 7 = .ok (.ifCond .eq 7, 3) := by decide +kernel
theorem zd_Mo_via_14 : decode zc_Mo_via 14 = .ok (.iconst 1, 1) := by decide +kernel
theorem zd_Mo_via_10 : decode zc_Mo_via 10 = .ok (.iconst 0, 1) := by decide +kernel
theorem zd_Mo_via_11 : decode zc_Mo_via 11 = .ok (.goto 4, 3) := by decide +kernel
theorem zd_Mo_isJoined_30 : decode zc_Mo_isJoined 30 = .ok (.iconst 0, 1) := by decide +kernel
theorem zd_Mo_isJoined_31 : decode zc_Mo_isJoined 31 = .ok (.ireturn, 1) := by decide +kernel
theorem zd_Mo_isJoined_34 : decode zc_Mo_isJoined 34 = .ok (.iload_n 2, 1) := by decide +kernel
theorem zd_Mo_isJoined_35 : decode zc_Mo_isJoined 35 = .ok (.aload_n 0, 1) := by decide +kernel
theorem zd_Mo_isJoined_36 : decode zc_Mo_isJoined 36 = .ok (.invokevirtual 86, 3) := by decide +kernel
theorem zd_Mo_isJoined_39 : decode zc_Mo_isJoined 39 = .ok (.if_icmp .ge 30, 3) := by decide +kernel
theorem zd_Mo_isJoined_69 : decode zc_Mo_isJoined 69 = .ok (.iconst 1, 1) := by decide +kernel
theorem zd_Mo_isJoined_70 : decode zc_Mo_isJoined 70 = .ok (.istore_n 2, 1) := by decide +kernel
theorem zd_Mo_isJoined_42 : decode zc_Mo_isJoined 42 = .ok (.aload_n 0, 1) := by decide +kernel
theorem zd_Mo_isJoined_43 : decode zc_Mo_isJoined 43 = .ok (.getfield 26, 3) := by decide +kernel
theorem zd_Mo_isJoined_46 : decode zc_Mo_isJoined 46 = .ok (.iload_n 2, 1) := by decide +kernel
theorem zd_Mo_isJoined_47 : decode zc_Mo_isJoined 47 = .ok (.iload_n 2, 1) := by decide +kernel
theorem zd_Mo_isJoined_48 : decode zc_Mo_isJoined 48 = .ok (.aload_n 0, 1) := by decide +kernel
theorem zd_Mo_isJoined_49 : decode zc_Mo_isJoined 49 = .ok (.getfield 35, 3) := by decide +kernel
theorem zd_Mo_isJoined_52 : decode zc_Mo_isJoined 52 = .ok (.iload_n 1, 1) := by decide +kernel
theorem zd_Mo_isJoined_53 : decode zc_Mo_isJoined 53 = .ok (.iaload, 1) := by decide +kernel
theorem zd_Mo_isJoined_54 : decode zc_Mo_isJoined 54 = .ok (.if_icmp .ne 7, 3) := by decide +kernel
theorem zd_Mo_isJoined_61 : decode zc_Mo_isJoined 61 = .ok (.iconst 0, 1) := by decide +kernel
theorem zd_Mo_isJoined_57 : decode zc_Mo_isJoined 57 = .ok (.iconst 1, 1) := by decide +kernel
theorem zd_Mo_isJoined_58 : decode zc_Mo_isJoined 58 = .ok (.goto 4, 3) := by decide +kernel
theorem zd_Mo_isJoined_62 : decode zc_Mo_isJoined 62 = .ok (.bastore, 1) := by decide +kernel
theorem zd_Mo_isJoined_63 : decode zc_Mo_isJoined 63 = .ok (.iinc 2 1, 3) := by decide +kernel
theorem zd_Mo_isJoined_66 : decode zc_Mo_isJoined 66 = .ok (.goto (-32), 3) := by decide +kernel
theorem zd_Mo_isJoined_71 : decode zc_Mo_isJoined 71 = .ok (.iload_n 2, 1) := by decide +kernel
theorem zd_Mo_isJoined_72 : decode zc_Mo_isJoined 72 = .ok (.ifCond .eq 63, 3) := by decide +kernel
theorem zd_Mo_isJoined_135 : decode zc_Mo_isJoined 135 = .ok (.aload_n 0, 1) := by decide +kernel
theorem zd_Mo_isJoined_136 : decode zc_Mo_isJoined 136 = .ok (.getfield 26, 3) := by decide +kernel
theorem zd_Mo_isJoined_139 : decode zc_Mo_isJoined 139 = .ok (.aload_n 0, 1) := by decide +kernel
theorem zd_Mo_isJoined_140 : decode zc_Mo_isJoined 140 = .ok (.getfield 38, 3) := by decide +kernel
theorem zd_Mo_isJoined_143 : decode zc_Mo_isJoined 143 = .ok (.iload_n 1, 1) := by decide +kernel
theorem zd_Mo_isJoined_144 : decode zc_Mo_isJoined 144 = .ok (.iaload, 1) := by decide +kernel
theorem zd_Mo_isJoined_145 : decode zc_Mo_isJoined 145 = .ok (.baload, 1) := by decide +kernel
theorem zd_Mo_isJoined_146 : decode zc_Mo_isJoined 146 = .ok (.ireturn, 1) := by decide +kernel
theorem zd_Mo_isJoined_75 : decode zc_Mo_isJoined 75 = .ok (.iconst 0, 1) := by decide +kernel
theorem zd_Mo_isJoined_76 : decode zc_Mo_isJoined 76 = .ok (.istore_n 2, 1) := by decide +kernel
theorem zd_Mo_isJoined_77 : decode zc_Mo_isJoined 77 = .ok (.iconst 0, 1) := by decide +kernel
theorem zd_Mo_isJoined_78 : decode zc_Mo_isJoined 78 = .ok (.istore_n 3, 1) := by decide +kernel
theorem zd_Mo_isJoined_79 : decode zc_Mo_isJoined 79 = .ok (.iload_n 3, 1) := by decide +kernel
theorem zd_Mo_isJoined_80 : decode zc_Mo_isJoined 80 = .ok (.aload_n 0, 1) := by decide +kernel
theorem zd_Mo_isJoined_81 : decode zc_Mo_isJoined 81 = .ok (.invokevirtual 86, 3) := by decide +kernel
theorem zd_Mo_isJoined_84 : decode zc_Mo_isJoined 84 = .ok (.if_icmp .ge 48, 3) := by decide +kernel
theorem zd_Mo_isJoined_132 : decode zc_Mo_isJoined 132 = .ok (.goto (-61), 3) := by decide +kernel
theorem zd_Mo_isJoined_87 : decode zc_Mo_isJoined 87 = .ok (.aload_n 0, 1) := by decide +kernel
theorem zd_Mo_isJoined_88 : decode zc_Mo_isJoined 88 = .ok (.getfield 26, 3) := by decide +kernel
theorem zd_Mo_isJoined_91 : decode zc_Mo_isJoined 91 = .ok (.iload_n 3, 1) := by decide +kernel
theorem zd_Mo_isJoined_92 : decode zc_Mo_isJoined 92 = .ok (.baload, 1) := by decide +kernel
theorem zd_Mo_isJoined_93 : decode zc_Mo_isJoined 93 = .ok (.ifCond .ne 33, 3) := by decide +kernel
theorem zd_Mo_isJoined_96 : decode zc_Mo_isJoined 96 = .ok (.aload_n 0, 1) := by decide +kernel
theorem zd_Mo_isJoined_97 : decode zc_Mo_isJoined 97 = .ok (.getfield 17, 3) := by decide +kernel
theorem zd_Mo_isJoined_100 : decode zc_Mo_isJoined 100 = .ok (.iload_n 3, 1) := by decide +kernel
theorem zd_Mo_isJoined_101 : decode zc_Mo_isJoined 101 = .ok (.iaload, 1) := by decide +kernel
theorem zd_Mo_isJoined_102 : decode zc_Mo_isJoined 102 = .ok (.iload_n 1, 1) := by decide +kernel
theorem zd_Mo_isJoined_103 : decode zc_Mo_isJoined 103 = .ok (.if_icmp .ne 23, 3) := by decide +kernel
theorem zd_Mo_isJoined_106 : decode zc_Mo_isJoined 106 = .ok (.aload_n 0, 1) := by decide +kernel
theorem zd_Mo_isJoined_107 : decode zc_Mo_isJoined 107 = .ok (.iload_n 3, 1) := by decide +kernel
theorem zd_Mo_isJoined_108 : decode zc_Mo_isJoined 108 = .ok (.invokevirtual 152, 3) := by decide +kernel
theorem zd_Mo_isJoined_111 : decode zc_Mo_isJoined 111 = .ok (.ifCond .ne 6, 3) := by decide +kernel
theorem zd_Mo_isJoined_117 : decode zc_Mo_isJoined 117 = .ok (.aload_n 0, 1) := by decide +kernel
theorem zd_Mo_isJoined_118 : decode zc_Mo_isJoined 118 = .ok (.getfield 26, 3) := by decide +kernel
theorem zd_Mo_isJoined_121 : decode zc_Mo_isJoined 121 = .ok (.iload_n 3, 1) := by decide +kernel
theorem zd_Mo_isJoined_122 : decode zc_Mo_isJoined 122 = .ok (.iconst 1, 1) := by decide +kernel
theorem zd_Mo_isJoined_123 : decode zc_Mo_isJoined 123 = .ok (.bastore, 1) := by decide +kernel
theorem zd_Mo_isJoined_124 : decode zc_Mo_isJoined 124 = .ok (.iconst 1, 1) := by decide +kernel
theorem zd_Mo_isJoined_125 : decode zc_Mo_isJoined 125 = .ok (.istore_n 2, 1) := by decide +kernel
theorem zd_Mo_isJoined_114 : decode zc_Mo_isJoined 114 = .ok (.goto 12, 3) := by decide +kernel
theorem zd_Mo_isJoined_126 : decode zc_Mo_isJoined 126 = .ok (.iinc 3 1, 3) := by decide +kernel
theorem zd_Mo_isJoined_129 : decode zc_Mo_isJoined 129 = .ok (.goto (-50), 3) := by decide +kernel
theorem zd_Mo_isJoined_0 : decode zc_Mo_isJoined 0 = .ok (.aload_n 0, 1) := by decide +kernel
theorem zd_Mo_isJoined_1 : decode zc_Mo_isJoined 1 = .ok (.getfield 17, 3) := by decide +kernel
theorem zd_Mo_isJoined_4 : decode zc_Mo_isJoined 4 = .ok (.aload_n 0, 1) := by decide +kernel
theorem zd_Mo_isJoined_5 : decode zc_Mo_isJoined 5 = .ok (.getfield 35, 3) := by decide +kernel
theorem zd_Mo_isJoined_8 : decode zc_Mo_isJoined 8 = .ok (.iload_n 1, 1) := by decide +kernel
theorem zd_Mo_isJoined_9 : decode zc_Mo_isJoined 9 = .ok (.iaload, 1) := by decide +kernel
theorem zd_Mo_isJoined_10 : decode zc_Mo_isJoined 10 = .ok (.iaload, 1) := by decide +kernel
theorem zd_Mo_isJoined_11 : decode zc_Mo_isJoined 11 = .ok (.iload_n 1, 1) := by decide +kernel
theorem zd_Mo_isJoined_12 : decode zc_Mo_isJoined 12 = .ok (.if_icmp .ne 18, 3) := by decide +kernel
theorem zd_Mo_isJoined_15 : decode zc_Mo_isJoined 15 = .ok (.aload_n 0, 1) := by decide +kernel
theorem zd_Mo_isJoined_16 : decode zc_Mo_isJoined 16 = .ok (.getfield 17, 3) := by decide +kernel
theorem zd_Mo_isJoined_19 : decode zc_Mo_isJoined 19 = .ok (.aload_n 0, 1) := by decide +kernel
theorem zd_Mo_isJoined_20 : decode zc_Mo_isJoined 20 = .ok (.getfield 38, 3) := by decide +kernel
theorem zd_Mo_isJoined_23 : decode zc_Mo_isJoined 23 = .ok (.iload_n 1, 1) := by decide +kernel
theorem zd_Mo_isJoined_24 : decode zc_Mo_isJoined 24 = .ok (.iaload, 1) := by decide +kernel
theorem zd_Mo_isJoined_25 : decode zc_Mo_isJoined 25 = .ok (.iaload, 1) := by decide +kernel
theorem zd_Mo_isJoined_26 : decode zc_Mo_isJoined 26 = .ok (.iload_n 1, 1) := by decide +kernel
theorem zd_Mo_isJoined_27 : decode zc_Mo_isJoined 27 = .ok (.if_icmp .eq 5, 3) := by decide +kernel
theorem zd_Mo_isJoined_32 : decode zc_Mo_isJoined 32 = .ok (.iconst 0, 1) := by decide +kernel
theorem zd_Mo_isJoined_33 : decode zc_Mo_isJoined 33 = .ok (.istore_n 2, 1) := by decide +kernel
theorem zd_Mo_touches_4 : decode zc_Mo_touches 4 = .ok (.iload_n 3, 1) := by decide +kernel
theorem zd_Mo_touches_5 : decode zc_Mo_touches 5 = .ok (.iconst 5, 1) := by decide +kernel
theorem zd_Mo_touches_6 : decode zc_Mo_touches 6 = .ok (.if_icmp .ge 61, 3) := by decide +kernel
theorem zd_Mo_touches_67 : decode zc_Mo_touches 67 = .ok (.iload_n 2, 1) := by decide +kernel
theorem zd_Mo_touches_68 : decode zc_Mo_touches 68 = .ok (.ireturn, 1) := by decide +kernel
theorem zd_Mo_touches_9 : decode zc_Mo_touches 9 = .ok (.aload_n 0, 1) := by decide +kernel
theorem zd_Mo_touches_10 : decode zc_Mo_touches 10 = .ok (.iload_n 1, 1) := by decide +kernel
theorem zd_Mo_touches_11 : decode zc_Mo_touches 11 = .ok (.iload_n 3, 1) := by decide +kernel
theorem zd_Mo_touches_12 : decode zc_Mo_touches 12 = .ok (.invokevirtual 72, 3) := by decide +kernel
theorem zd_Mo_touches_15 : decode zc_Mo_touches 15 = .ok (.istore 4, 2) := by decide +kernel
theorem zd_Mo_touches_17 : decode zc_Mo_touches 17 = .ok (.iload_n 2, 1) := by decide +kernel
theorem zd_Mo_touches_18 : decode zc_Mo_touches 18 = .ok (.ifCond .ne 37, 3) := by decide +kernel
theorem zd_Mo_touches_21 : decode zc_Mo_touches 21 = .ok (.iload 4, 2) := by decide +kernel
theorem zd_Mo_touches_23 : decode zc_Mo_touches 23 = .ok (.iconst (-1), 1) := by decide +kernel
theorem zd_Mo_touches_24 : decode zc_Mo_touches 24 = .ok (.if_icmp .eq 35, 3) := by decide +kernel
theorem zd_Mo_touches_27 : decode zc_Mo_touches 27 = .ok (.aload_n 0, 1) := by decide +kernel
theorem zd_Mo_touches_28 : decode zc_Mo_touches 28 = .ok (.getfield 26, 3) := by decide +kernel
theorem zd_Mo_touches_31 : decode zc_Mo_touches 31 = .ok (.iload 4, 2) := by decide +kernel
theorem zd_Mo_touches_33 : decode zc_Mo_touches 33 = .ok (.baload, 1) := by decide +kernel
theorem zd_Mo_touches_34 : decode zc_Mo_touches 34 = .ok (.ifCond .eq 25, 3) := by decide +kernel
theorem zd_Mo_touches_37 : decode zc_Mo_touches 37 = .ok (.iload_n 3, 1) := by decide +kernel
theorem zd_Mo_touches_38 : decode zc_Mo_touches 38 = .ok (.iconst 4, 1) := by decide +kernel
theorem zd_Mo_touches_39 : decode zc_Mo_touches 39 = .ok (.if_icmp .lt 16, 3) := by decide +kernel
theorem zd_Mo_touches_42 : decode zc_Mo_touches 42 = .ok (.aload_n 0, 1) := by decide +kernel
theorem zd_Mo_touches_43 : decode zc_Mo_touches 43 = .ok (.getfield 20, 3) := by decide +kernel
theorem zd_Mo_touches_46 : decode zc_Mo_touches 46 = .ok (.aload_n 0, 1) := by decide +kernel
theorem zd_Mo_touches_47 : decode zc_Mo_touches 47 = .ok (.iload_n 1, 1) := by decide +kernel
theorem zd_Mo_touches_48 : decode zc_Mo_touches 48 = .ok (.invokevirtual 90, 3) := by decide +kernel
theorem zd_Mo_touches_51 : decode zc_Mo_touches 51 = .ok (.baload, 1) := by decide +kernel
theorem zd_Mo_touches_52 : decode zc_Mo_touches 52 = .ok (.ifCond .eq 7, 3) := by decide +kernel
theorem zd_Mo_touches_55 : decode zc_Mo_touches 55 = .ok (.iconst 1, 1) := by decide +kernel
theorem zd_Mo_touches_56 : decode zc_Mo_touches 56 = .ok (.goto 4, 3) := by decide +kernel
theorem zd_Mo_touches_59 : decode zc_Mo_touches 59 = .ok (.iconst 0, 1) := by decide +kernel
theorem zd_Mo_touches_60 : decode zc_Mo_touches 60 = .ok (.istore_n 2, 1) := by decide +kernel
theorem zd_Mo_touches_61 : decode zc_Mo_touches 61 = .ok (.iinc 3 1, 3) := by decide +kernel
theorem zd_Mo_touches_64 : decode zc_Mo_touches 64 = .ok (.goto (-60), 3) := by decide +kernel
theorem zd_Mo_touches_0 : decode zc_Mo_touches 0 = .ok (.iconst 0, 1) := by decide +kernel
theorem zd_Mo_touches_1 : decode zc_Mo_touches 1 = .ok (.istore_n 2, 1) := by decide +kernel
theorem zd_Mo_touches_2 : decode zc_Mo_touches 2 = .ok (.iconst 0, 1) := by decide +kernel
theorem zd_Mo_touches_3 : decode zc_Mo_touches 3 = .ok (.istore_n 3, 1) := by decide +kernel
theorem zd_Mo_countOpen_4 : decode zc_Mo_countOpen 4 = .ok (.iload_n 2, 1) := by decide +kernel
theorem zd_Mo_countOpen_5 : decode zc_Mo_countOpen 5 = .ok (.aload_n 0, 1) := by decide +kernel
theorem zd_Mo_countOpen_6 : decode zc_Mo_countOpen 6 = .ok (.getfield 83, 3) := by decide +kernel
theorem zd_Mo_countOpen_9 : decode zc_Mo_countOpen 9 = .ok (.if_icmp .ge 25, 3) := by decide +kernel
theorem zd_Mo_countOpen_34 : decode zc_Mo_countOpen 34 = .ok (.iload_n 1, 1) := by decide +kernel
theorem zd_Mo_countOpen_35 : decode zc_Mo_countOpen 35 = .ok (.ireturn, 1) := by decide +kernel
theorem zd_Mo_countOpen_12 : decode zc_Mo_countOpen 12 = .ok (.iload_n 1, 1) := by decide +kernel
theorem zd_Mo_countOpen_13 : decode zc_Mo_countOpen 13 = .ok (.aload_n 0, 1) := by decide +kernel
theorem zd_Mo_countOpen_14 : decode zc_Mo_countOpen 14 = .ok (.iload_n 2, 1) := by decide +kernel
theorem zd_Mo_countOpen_15 : decode zc_Mo_countOpen 15 = .ok (.invokevirtual 146, 3) := by decide +kernel
theorem zd_Mo_countOpen_18 : decode zc_Mo_countOpen 18 = .ok (.ifCond .eq 7, 3) := by decide +kernel
theorem zd_Mo_countOpen_25 : decode zc_Mo_countOpen 25 = .ok (.iconst 1, 1) := by decide +kernel
theorem zd_Mo_countOpen_21 : decode zc_Mo_countOpen 21 = .ok (.iconst 0, 1) := by decide +kernel
theorem zd_Mo_countOpen_22 : decode zc_Mo_countOpen 22 = .ok (.goto 4, 3) := by decide +kernel
theorem zd_Mo_countOpen_26 : decode zc_Mo_countOpen 26 = .ok (.iadd, 1) := by decide +kernel
theorem zd_Mo_countOpen_27 : decode zc_Mo_countOpen 27 = .ok (.istore_n 1, 1) := by decide +kernel
theorem zd_Mo_countOpen_28 : decode zc_Mo_countOpen 28 = .ok (.iinc 2 1, 3) := by decide +kernel
theorem zd_Mo_countOpen_31 : decode zc_Mo_countOpen 31 = .ok (.goto (-27), 3) := by decide +kernel
theorem zd_Mo_countOpen_0 : decode zc_Mo_countOpen 0 = .ok (.iconst 0, 1) := by decide +kernel
theorem zd_Mo_countOpen_1 : decode zc_Mo_countOpen 1 = .ok (.istore_n 1, 1) := by decide +kernel
theorem zd_Mo_countOpen_2 : decode zc_Mo_countOpen 2 = .ok (.iconst 0, 1) := by decide +kernel
theorem zd_Mo_countOpen_3 : decode zc_Mo_countOpen 3 = .ok (.istore_n 2, 1) := by decide +kernel
theorem zd_Mo_countNear_4 : decode zc_Mo_countNear 4 = .ok (.iload_n 2, 1) := by decide +kernel
theorem zd_Mo_countNear_5 : decode zc_Mo_countNear 5 = .ok (.aload_n 0, 1) := by decide +kernel
theorem zd_Mo_countNear_6 : decode zc_Mo_countNear 6 = .ok (.invokevirtual 86, 3) := by decide +kernel
theorem zd_Mo_countNear_9 : decode zc_Mo_countNear 9 = .ok (.if_icmp .ge 75, 3) := by decide +kernel
theorem zd_Mo_countNear_12 : decode zc_Mo_countNear 12 = .ok (.aload_n 0, 1) := by decide +kernel
theorem zd_Mo_countNear_13 : decode zc_Mo_countNear 13 = .ok (.getfield 54, 3) := by decide +kernel
theorem zd_Mo_countNear_16 : decode zc_Mo_countNear 16 = .ok (.ifCond .eq 68, 3) := by decide +kernel
theorem zd_Mo_countNear_19 : decode zc_Mo_countNear 19 = .ok (.iconst 1, 1) := by decide +kernel
theorem zd_Mo_countNear_20 : decode zc_Mo_countNear 20 = .ok (.istore_n 3, 1) := by decide +kernel
theorem zd_Mo_countNear_21 : decode zc_Mo_countNear 21 = .ok (.iload_n 3, 1) := by decide +kernel
theorem zd_Mo_countNear_22 : decode zc_Mo_countNear 22 = .ok (.iconst 4, 1) := by decide +kernel
theorem zd_Mo_countNear_23 : decode zc_Mo_countNear 23 = .ok (.if_icmp .ge 55, 3) := by decide +kernel
theorem zd_Mo_countNear_78 : decode zc_Mo_countNear 78 = .ok (.iinc 2 1, 3) := by decide +kernel
theorem zd_Mo_countNear_81 : decode zc_Mo_countNear 81 = .ok (.goto (-77), 3) := by decide +kernel
theorem zd_Mo_countNear_26 : decode zc_Mo_countNear 26 = .ok (.aload_n 0, 1) := by decide +kernel
theorem zd_Mo_countNear_27 : decode zc_Mo_countNear 27 = .ok (.iload_n 2, 1) := by decide +kernel
theorem zd_Mo_countNear_28 : decode zc_Mo_countNear 28 = .ok (.iload_n 3, 1) := by decide +kernel
theorem zd_Mo_countNear_29 : decode zc_Mo_countNear 29 = .ok (.invokevirtual 72, 3) := by decide +kernel
theorem zd_Mo_countNear_32 : decode zc_Mo_countNear 32 = .ok (.istore 4, 2) := by decide +kernel
theorem zd_Mo_countNear_34 : decode zc_Mo_countNear 34 = .ok (.iload 4, 2) := by decide +kernel
theorem zd_Mo_countNear_36 : decode zc_Mo_countNear 36 = .ok (.iconst (-1), 1) := by decide +kernel
theorem zd_Mo_countNear_37 : decode zc_Mo_countNear 37 = .ok (.if_icmp .eq 35, 3) := by decide +kernel
theorem zd_Mo_countNear_40 : decode zc_Mo_countNear 40 = .ok (.aload_n 0, 1) := by decide +kernel
theorem zd_Mo_countNear_41 : decode zc_Mo_countNear 41 = .ok (.getfield 17, 3) := by decide +kernel
theorem zd_Mo_countNear_44 : decode zc_Mo_countNear 44 = .ok (.iload_n 2, 1) := by decide +kernel
theorem zd_Mo_countNear_45 : decode zc_Mo_countNear 45 = .ok (.iaload, 1) := by decide +kernel
theorem zd_Mo_countNear_46 : decode zc_Mo_countNear 46 = .ok (.iconst (-1), 1) := by decide +kernel
theorem zd_Mo_countNear_47 : decode zc_Mo_countNear 47 = .ok (.if_icmp .eq 25, 3) := by decide +kernel
theorem zd_Mo_countNear_50 : decode zc_Mo_countNear 50 = .ok (.aload_n 0, 1) := by decide +kernel
theorem zd_Mo_countNear_51 : decode zc_Mo_countNear 51 = .ok (.getfield 17, 3) := by decide +kernel
theorem zd_Mo_countNear_54 : decode zc_Mo_countNear 54 = .ok (.iload 4, 2) := by decide +kernel
theorem zd_Mo_countNear_56 : decode zc_Mo_countNear 56 = .ok (.iaload, 1) := by decide +kernel
theorem zd_Mo_countNear_57 : decode zc_Mo_countNear 57 = .ok (.aload_n 0, 1) := by decide +kernel
theorem zd_Mo_countNear_58 : decode zc_Mo_countNear 58 = .ok (.getfield 17, 3) := by decide +kernel
theorem zd_Mo_countNear_61 : decode zc_Mo_countNear 61 = .ok (.iload_n 2, 1) := by decide +kernel
theorem zd_Mo_countNear_62 : decode zc_Mo_countNear 62 = .ok (.iaload, 1) := by decide +kernel
theorem zd_Mo_countNear_63 : decode zc_Mo_countNear 63 = .ok (.invokestatic 69, 3) := by decide +kernel
theorem zd_Mo_countNear_66 : decode zc_Mo_countNear 66 = .ok (.ifCond .eq 6, 3) := by decide +kernel
theorem zd_Mo_countNear_69 : decode zc_Mo_countNear 69 = .ok (.iinc 1 1, 3) := by decide +kernel
theorem zd_Mo_countNear_72 : decode zc_Mo_countNear 72 = .ok (.iinc 3 2, 3) := by decide +kernel
theorem zd_Mo_countNear_75 : decode zc_Mo_countNear 75 = .ok (.goto (-54), 3) := by decide +kernel
theorem zd_Mo_countNear_84 : decode zc_Mo_countNear 84 = .ok (.iload_n 1, 1) := by decide +kernel
theorem zd_Mo_countNear_85 : decode zc_Mo_countNear 85 = .ok (.ireturn, 1) := by decide +kernel
theorem zd_Mo_countNear_0 : decode zc_Mo_countNear 0 = .ok (.iconst 0, 1) := by decide +kernel
theorem zd_Mo_countNear_1 : decode zc_Mo_countNear 1 = .ok (.istore_n 1, 1) := by decide +kernel
theorem zd_Mo_countNear_2 : decode zc_Mo_countNear 2 = .ok (.iconst 0, 1) := by decide +kernel
theorem zd_Mo_countNear_3 : decode zc_Mo_countNear 3 = .ok (.istore_n 2, 1) := by decide +kernel
theorem zd_Mo_faults_10 : decode zc_Mo_faults 10 = .ok (.iconst 1, 1) := by decide +kernel
theorem zd_Mo_faults_11 : decode zc_Mo_faults 11 = .ok (.goto 4, 3) := by decide +kernel
theorem zd_Mo_faults_15 : decode zc_Mo_faults 15 = .ok (.putfield 58, 3) := by decide +kernel
theorem zd_Mo_faults_18 : decode zc_Mo_faults 18 = .ok (.aload_n 0, 1) := by decide +kernel
theorem zd_Mo_faults_19 : decode zc_Mo_faults 19 = .ok (.getfield 58, 3) := by decide +kernel
theorem zd_Mo_faults_22 : decode zc_Mo_faults 22 = .ok (.ifCond .le 5, 3) := by decide +kernel
theorem zd_Mo_faults_27 : decode zc_Mo_faults 27 = .ok (.iload_n 1, 1) := by decide +kernel
theorem zd_Mo_faults_28 : decode zc_Mo_faults 28 = .ok (.iconst 3, 1) := by decide +kernel
theorem zd_Mo_faults_29 : decode zc_Mo_faults 29 = .ok (.if_icmp .ne 8, 3) := by decide +kernel
theorem zd_Mo_faults_37 : decode zc_Mo_faults 37 = .ok (.iload_n 1, 1) := by decide +kernel
theorem zd_Mo_faults_38 : decode zc_Mo_faults 38 = .ok (.iconst 1, 1) := by decide +kernel
theorem zd_Mo_faults_39 : decode zc_Mo_faults 39 = .ok (.if_icmp .ne 8, 3) := by decide +kernel
theorem zd_Mo_faults_47 : decode zc_Mo_faults 47 = .ok (.iconst 0, 1) := by decide +kernel
theorem zd_Mo_faults_48 : decode zc_Mo_faults 48 = .ok (.istore_n 2, 1) := by decide +kernel
theorem zd_Mo_faults_49 : decode zc_Mo_faults 49 = .ok (.iconst 0, 1) := by decide +kernel
theorem zd_Mo_faults_50 : decode zc_Mo_faults 50 = .ok (.istore_n 3, 1) := by decide +kernel
theorem zd_Mo_faults_42 : decode zc_Mo_faults 42 = .ok (.aload_n 0, 1) := by decide +kernel
theorem zd_Mo_faults_43 : decode zc_Mo_faults 43 = .ok (.invokevirtual 155, 3) := by decide +kernel
theorem zd_Mo_faults_46 : decode zc_Mo_faults 46 = .ok (.ireturn, 1) := by decide +kernel
theorem zd_Mo_faults_32 : decode zc_Mo_faults 32 = .ok (.aload_n 0, 1) := by decide +kernel
theorem zd_Mo_faults_33 : decode zc_Mo_faults 33 = .ok (.invokevirtual 149, 3) := by decide +kernel
theorem zd_Mo_faults_36 : decode zc_Mo_faults 36 = .ok (.ireturn, 1) := by decide +kernel
theorem zd_Mo_faults_25 : decode zc_Mo_faults 25 = .ok (.iconst 0, 1) := by decide +kernel
theorem zd_Mo_faults_26 : decode zc_Mo_faults 26 = .ok (.ireturn, 1) := by decide +kernel
theorem zd_Mo_faults_51 : decode zc_Mo_faults 51 = .ok (.iload_n 3, 1) := by decide +kernel
theorem zd_Mo_faults_52 : decode zc_Mo_faults 52 = .ok (.aload_n 0, 1) := by decide +kernel
theorem zd_Mo_faults_53 : decode zc_Mo_faults 53 = .ok (.invokevirtual 86, 3) := by decide +kernel
theorem zd_Mo_faults_56 : decode zc_Mo_faults 56 = .ok (.if_icmp .ge 137, 3) := by decide +kernel
theorem zd_Mo_faults_193 : decode zc_Mo_faults 193 = .ok (.iload_n 2, 1) := by decide +kernel
theorem zd_Mo_faults_194 : decode zc_Mo_faults 194 = .ok (.ireturn, 1) := by decide +kernel
theorem zd_Mo_faults_59 : decode zc_Mo_faults 59 = .ok (.aload_n 0, 1) := by decide +kernel
theorem zd_Mo_faults_60 : decode zc_Mo_faults 60 = .ok (.getfield 17, 3) := by decide +kernel
theorem zd_Mo_faults_63 : decode zc_Mo_faults 63 = .ok (.iload_n 3, 1) := by decide +kernel
theorem zd_Mo_faults_64 : decode zc_Mo_faults 64 = .ok (.iaload, 1) := by decide +kernel
theorem zd_Mo_faults_65 : decode zc_Mo_faults 65 = .ok (.iconst (-1), 1) := by decide +kernel
theorem zd_Mo_faults_66 : decode zc_Mo_faults 66 = .ok (.if_icmp .eq 34, 3) := by decide +kernel
theorem zd_Mo_faults_69 : decode zc_Mo_faults 69 = .ok (.aload_n 0, 1) := by decide +kernel
theorem zd_Mo_faults_70 : decode zc_Mo_faults 70 = .ok (.getfield 7, 3) := by decide +kernel
theorem zd_Mo_faults_73 : decode zc_Mo_faults 73 = .ok (.iload_n 3, 1) := by decide +kernel
theorem zd_Mo_faults_74 : decode zc_Mo_faults 74 = .ok (.baload, 1) := by decide +kernel
theorem zd_Mo_faults_75 : decode zc_Mo_faults 75 = .ok (.ifCond .ne 21, 3) := by decide +kernel
theorem zd_Mo_faults_78 : decode zc_Mo_faults 78 = .ok (.aload_n 0, 1) := by decide +kernel
theorem zd_Mo_faults_79 : decode zc_Mo_faults 79 = .ok (.getfield 13, 3) := by decide +kernel
theorem zd_Mo_faults_82 : decode zc_Mo_faults 82 = .ok (.iload_n 3, 1) := by decide +kernel
theorem zd_Mo_faults_83 : decode zc_Mo_faults 83 = .ok (.iaload, 1) := by decide +kernel
theorem zd_Mo_faults_84 : decode zc_Mo_faults 84 = .ok (.aload_n 0, 1) := by decide +kernel
theorem zd_Mo_faults_85 : decode zc_Mo_faults 85 = .ok (.getfield 17, 3) := by decide +kernel
theorem zd_Mo_faults_88 : decode zc_Mo_faults 88 = .ok (.iload_n 3, 1) := by decide +kernel
theorem zd_Mo_faults_89 : decode zc_Mo_faults 89 = .ok (.iaload, 1) := by decide +kernel
theorem zd_Mo_faults_90 : decode zc_Mo_faults 90 = .ok (.invokestatic 69, 3) := by decide +kernel
theorem zd_Mo_faults_93 : decode zc_Mo_faults 93 = .ok (.ifCond .eq 7, 3) := by decide +kernel
theorem zd_Mo_faults_96 : decode zc_Mo_faults 96 = .ok (.iconst 1, 1) := by decide +kernel
theorem zd_Mo_faults_97 : decode zc_Mo_faults 97 = .ok (.goto 4, 3) := by decide +kernel
theorem zd_Mo_faults_100 : decode zc_Mo_faults 100 = .ok (.iconst 0, 1) := by decide +kernel
theorem zd_Mo_faults_101 : decode zc_Mo_faults 101 = .ok (.istore 4, 2) := by decide +kernel
theorem zd_Mo_faults_103 : decode zc_Mo_faults 103 = .ok (.iload_n 3, 1) := by decide +kernel
theorem zd_Mo_faults_104 : decode zc_Mo_faults 104 = .ok (.aload_n 0, 1) := by decide +kernel
theorem zd_Mo_faults_105 : decode zc_Mo_faults 105 = .ok (.getfield 44, 3) := by decide +kernel
theorem zd_Mo_faults_108 : decode zc_Mo_faults 108 = .ok (.aload_n 0, 1) := by decide +kernel
theorem zd_Mo_faults_109 : decode zc_Mo_faults 109 = .ok (.getfield 48, 3) := by decide +kernel
theorem zd_Mo_faults_112 : decode zc_Mo_faults 112 = .ok (.imul, 1) := by decide +kernel
theorem zd_Mo_faults_113 : decode zc_Mo_faults 113 = .ok (.if_icmp .ge 51, 3) := by decide +kernel
theorem zd_Mo_faults_116 : decode zc_Mo_faults 116 = .ok (.aload_n 0, 1) := by decide +kernel
theorem zd_Mo_faults_117 : decode zc_Mo_faults 117 = .ok (.getfield 20, 3) := by decide +kernel
theorem zd_Mo_faults_120 : decode zc_Mo_faults 120 = .ok (.iload_n 3, 1) := by decide +kernel
theorem zd_Mo_faults_121 : decode zc_Mo_faults 121 = .ok (.baload, 1) := by decide +kernel
theorem zd_Mo_faults_122 : decode zc_Mo_faults 122 = .ok (.ifCond .eq 42, 3) := by decide +kernel
theorem zd_Mo_faults_125 : decode zc_Mo_faults 125 = .ok (.aload_n 0, 1) := by decide +kernel
theorem zd_Mo_faults_126 : decode zc_Mo_faults 126 = .ok (.getfield 17, 3) := by decide +kernel
theorem zd_Mo_faults_129 : decode zc_Mo_faults 129 = .ok (.iload_n 3, 1) := by decide +kernel
theorem zd_Mo_faults_130 : decode zc_Mo_faults 130 = .ok (.iaload, 1) := by decide +kernel
theorem zd_Mo_faults_131 : decode zc_Mo_faults 131 = .ok (.iconst (-1), 1) := by decide +kernel
theorem zd_Mo_faults_132 : decode zc_Mo_faults 132 = .ok (.if_icmp .eq 28, 3) := by decide +kernel
theorem zd_Mo_faults_135 : decode zc_Mo_faults 135 = .ok (.aload_n 0, 1) := by decide +kernel
theorem zd_Mo_faults_136 : decode zc_Mo_faults 136 = .ok (.getfield 17, 3) := by decide +kernel
theorem zd_Mo_faults_139 : decode zc_Mo_faults 139 = .ok (.iload_n 3, 1) := by decide +kernel
theorem zd_Mo_faults_140 : decode zc_Mo_faults 140 = .ok (.iaload, 1) := by decide +kernel
theorem zd_Mo_faults_141 : decode zc_Mo_faults 141 = .ok (.aload_n 0, 1) := by decide +kernel
theorem zd_Mo_faults_142 : decode zc_Mo_faults 142 = .ok (.getfield 17, 3) := by decide +kernel
theorem zd_Mo_faults_145 : decode zc_Mo_faults 145 = .ok (.iload_n 3, 1) := by decide +kernel
theorem zd_Mo_faults_146 : decode zc_Mo_faults 146 = .ok (.aload_n 0, 1) := by decide +kernel
theorem zd_Mo_faults_147 : decode zc_Mo_faults 147 = .ok (.getfield 44, 3) := by decide +kernel
theorem zd_Mo_faults_150 : decode zc_Mo_faults 150 = .ok (.aload_n 0, 1) := by decide +kernel
theorem zd_Mo_faults_151 : decode zc_Mo_faults 151 = .ok (.getfield 48, 3) := by decide +kernel
theorem zd_Mo_faults_154 : decode zc_Mo_faults 154 = .ok (.imul, 1) := by decide +kernel
theorem zd_Mo_faults_155 : decode zc_Mo_faults 155 = .ok (.iadd, 1) := by decide +kernel
theorem zd_Mo_faults_156 : decode zc_Mo_faults 156 = .ok (.iaload, 1) := by decide +kernel
theorem zd_Mo_faults_157 : decode zc_Mo_faults 157 = .ok (.if_icmp .eq 7, 3) := by decide +kernel
theorem zd_Mo_faults_160 : decode zc_Mo_faults 160 = .ok (.iconst 1, 1) := by decide +kernel
theorem zd_Mo_faults_161 : decode zc_Mo_faults 161 = .ok (.goto 4, 3) := by decide +kernel
theorem zd_Mo_faults_164 : decode zc_Mo_faults 164 = .ok (.iconst 0, 1) := by decide +kernel
theorem zd_Mo_faults_165 : decode zc_Mo_faults 165 = .ok (.istore 5, 2) := by decide +kernel
theorem zd_Mo_faults_167 : decode zc_Mo_faults 167 = .ok (.iload_n 1, 1) := by decide +kernel
theorem zd_Mo_faults_168 : decode zc_Mo_faults 168 = .ok (.ifCond .ne 11, 3) := by decide +kernel
theorem zd_Mo_faults_179 : decode zc_Mo_faults 179 = .ok (.iload 5, 2) := by decide +kernel
theorem zd_Mo_faults_181 : decode zc_Mo_faults 181 = .ok (.ifCond .eq 6, 3) := by decide +kernel
theorem zd_Mo_faults_171 : decode zc_Mo_faults 171 = .ok (.iload 4, 2) := by decide +kernel
theorem zd_Mo_faults_173 : decode zc_Mo_faults 173 = .ok (.ifCond .eq 14, 3) := by decide +kernel
theorem zd_Mo_faults_176 : decode zc_Mo_faults 176 = .ok (.goto 8, 3) := by decide +kernel
theorem zd_Mo_faults_184 : decode zc_Mo_faults 184 = .ok (.iinc 2 1, 3) := by decide +kernel
theorem zd_Mo_faults_187 : decode zc_Mo_faults 187 = .ok (.iinc 3 1, 3) := by decide +kernel
theorem zd_Mo_faults_190 : decode zc_Mo_faults 190 = .ok (.goto (-139), 3) := by decide +kernel
theorem zd_Mo_faults_0 : decode zc_Mo_faults 0 = .ok (.aload_n 0, 1) := by decide +kernel
theorem zd_Mo_faults_1 : decode zc_Mo_faults 1 = .ok (.iload_n 1, 1) := by decide +kernel
theorem zd_Mo_faults_2 : decode zc_Mo_faults 2 = .ok (.ifCond .lt 8, 3) := by decide +kernel
theorem zd_Mo_faults_5 : decode zc_Mo_faults 5 = .ok (.iload_n 1, 1) := by decide +kernel
theorem zd_Mo_faults_6 : decode zc_Mo_faults 6 = .ok (.iconst 3, 1) := by decide +kernel
theorem zd_Mo_faults_7 : decode zc_Mo_faults 7 = .ok (.if_icmp .le 7, 3) := by decide +kernel
theorem zd_Mo_faults_14 : decode zc_Mo_faults 14 = .ok (.iconst 0, 1) := by decide +kernel
theorem zd_Mo_begins_36 : decode zc_Mo_begins 36 = .ok (.iconst 1, 1) := by decide +kernel
theorem zd_Mo_begins_37 : decode zc_Mo_begins 37 = .ok (.goto 4, 3) := by decide +kernel
theorem zd_Mo_begins_40 : decode zc_Mo_begins 40 = .ok (.iconst 0, 1) := by decide +kernel
theorem zd_Mo_begins_41 : decode zc_Mo_begins 41 = .ok (.ireturn, 1) := by decide +kernel
theorem zd_Mo_begins_0 : decode zc_Mo_begins 0 = .ok (.aload_n 0, 1) := by decide +kernel
theorem zd_Mo_begins_1 : decode zc_Mo_begins 1 = .ok (.getfield 17, 3) := by decide +kernel
theorem zd_Mo_begins_4 : decode zc_Mo_begins 4 = .ok (.iload_n 1, 1) := by decide +kernel
theorem zd_Mo_begins_5 : decode zc_Mo_begins 5 = .ok (.iaload, 1) := by decide +kernel
theorem zd_Mo_begins_6 : decode zc_Mo_begins 6 = .ok (.iconst (-1), 1) := by decide +kernel
theorem zd_Mo_begins_7 : decode zc_Mo_begins 7 = .ok (.if_icmp .eq 33, 3) := by decide +kernel
theorem zd_Mo_begins_10 : decode zc_Mo_begins 10 = .ok (.iload_n 1, 1) := by decide +kernel
theorem zd_Mo_begins_11 : decode zc_Mo_begins 11 = .ok (.aload_n 0, 1) := by decide +kernel
theorem zd_Mo_begins_12 : decode zc_Mo_begins 12 = .ok (.getfield 44, 3) := by decide +kernel
theorem zd_Mo_begins_15 : decode zc_Mo_begins 15 = .ok (.irem, 1) := by decide +kernel
theorem zd_Mo_begins_16 : decode zc_Mo_begins 16 = .ok (.ifCond .eq 20, 3) := by decide +kernel
theorem zd_Mo_begins_19 : decode zc_Mo_begins 19 = .ok (.aload_n 0, 1) := by decide +kernel
theorem zd_Mo_begins_20 : decode zc_Mo_begins 20 = .ok (.getfield 17, 3) := by decide +kernel
theorem zd_Mo_begins_23 : decode zc_Mo_begins 23 = .ok (.iload_n 1, 1) := by decide +kernel
theorem zd_Mo_begins_24 : decode zc_Mo_begins 24 = .ok (.iconst 1, 1) := by decide +kernel
theorem zd_Mo_begins_25 : decode zc_Mo_begins 25 = .ok (.isub, 1) := by decide +kernel
theorem zd_Mo_begins_26 : decode zc_Mo_begins 26 = .ok (.iaload, 1) := by decide +kernel
theorem zd_Mo_begins_27 : decode zc_Mo_begins 27 = .ok (.aload_n 0, 1) := by decide +kernel
theorem zd_Mo_begins_28 : decode zc_Mo_begins 28 = .ok (.getfield 17, 3) := by decide +kernel
theorem zd_Mo_begins_31 : decode zc_Mo_begins 31 = .ok (.iload_n 1, 1) := by decide +kernel
theorem zd_Mo_begins_32 : decode zc_Mo_begins 32 = .ok (.iaload, 1) := by decide +kernel
theorem zd_Mo_begins_33 : decode zc_Mo_begins 33 = .ok (.if_icmp .eq 7, 3) := by decide +kernel
theorem zd_Mo_shapes_9 : decode zc_Mo_shapes 9 = .ok (.iload_n 2, 1) := by decide +kernel
theorem zd_Mo_shapes_10 : decode zc_Mo_shapes 10 = .ok (.aload_n 0, 1) := by decide +kernel
theorem zd_Mo_shapes_11 : decode zc_Mo_shapes 11 = .ok (.invokevirtual 86, 3) := by decide +kernel
theorem zd_Mo_shapes_14 : decode zc_Mo_shapes 14 = .ok (.if_icmp .ge 20, 3) := by decide +kernel

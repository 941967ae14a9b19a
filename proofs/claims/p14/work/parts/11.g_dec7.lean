theorem zd_Nets_span_44 : decode zc_Nets_span 44 = .ok (.getfield 22, 3) := by decide +kernel
theorem zd_Nets_span_47 : decode zc_Nets_span 47 = .ok (.getfield 49, 3) := by decide +kernel
theorem zd_Nets_span_50 : decode zc_Nets_span 50 = .ok (.iload_n 3, 1) := by decide +kernel
theorem zd_Nets_span_51 : decode zc_Nets_span 51 = .ok (.iaload, 1) := by decide +kernel
theorem zd_Nets_span_52 : decode zc_Nets_span 52 = .ok (.isub, 1) := by decide +kernel
theorem zd_Nets_span_53 : decode zc_Nets_span 53 = .ok (.invokestatic 44, 3) := by decide +kernel
theorem zd_Nets_span_56 : decode zc_Nets_span 56 = .ok (.iadd, 1) := by decide +kernel
theorem zd_Nets_span_57 : decode zc_Nets_span 57 = .ok (.aload_n 0, 1) := by decide +kernel
theorem zd_Nets_span_58 : decode zc_Nets_span 58 = .ok (.getfield 22, 3) := by decide +kernel
theorem zd_Nets_span_61 : decode zc_Nets_span 61 = .ok (.getfield 52, 3) := by decide +kernel
theorem zd_Nets_span_64 : decode zc_Nets_span 64 = .ok (.iload_n 2, 1) := by decide +kernel
theorem zd_Nets_span_65 : decode zc_Nets_span 65 = .ok (.iaload, 1) := by decide +kernel
theorem zd_Nets_span_66 : decode zc_Nets_span 66 = .ok (.aload_n 0, 1) := by decide +kernel
theorem zd_Nets_span_67 : decode zc_Nets_span 67 = .ok (.getfield 22, 3) := by decide +kernel
theorem zd_Nets_span_70 : decode zc_Nets_span 70 = .ok (.getfield 52, 3) := by decide +kernel
theorem zd_Nets_span_73 : decode zc_Nets_span 73 = .ok (.iload_n 3, 1) := by decide +kernel
theorem zd_Nets_span_74 : decode zc_Nets_span 74 = .ok (.iaload, 1) := by decide +kernel
theorem zd_Nets_span_75 : decode zc_Nets_span 75 = .ok (.isub, 1) := by decide +kernel
theorem zd_Nets_span_76 : decode zc_Nets_span 76 = .ok (.invokestatic 44, 3) := by decide +kernel
theorem zd_Nets_span_79 : decode zc_Nets_span 79 = .ok (.iadd, 1) := by decide +kernel
theorem zd_Nets_span_80 : decode zc_Nets_span 80 = .ok (.ireturn, 1) := by decide +kernel
theorem zd_Router_lay_28 : decode zc_Router_lay 28 = .ok (.iload_n 2, 1) := by decide +kernel
theorem zd_Router_lay_29 : decode zc_Router_lay 29 = .ok (.ireturn, 1) := by decide +kernel
theorem zd_Router_lay_0 : decode zc_Router_lay 0 = .ok (.aload_n 0, 1) := by decide +kernel
theorem zd_Router_lay_1 : decode zc_Router_lay 1 = .ok (.getfield 30, 3) := by decide +kernel
theorem zd_Router_lay_4 : decode zc_Router_lay 4 = .ok (.iload_n 1, 1) := by decide +kernel
theorem zd_Router_lay_5 : decode zc_Router_lay 5 = .ok (.invokevirtual 51, 3) := by decide +kernel
theorem zd_Router_lay_8 : decode zc_Router_lay 8 = .ok (.aload_n 0, 1) := by decide +kernel
theorem zd_Router_lay_9 : decode zc_Router_lay 9 = .ok (.getfield 47, 3) := by decide +kernel
theorem zd_Router_lay_12 : decode zc_Router_lay 12 = .ok (.iload_n 1, 1) := by decide +kernel
theorem zd_Router_lay_13 : decode zc_Router_lay 13 = .ok (.iconst 0, 1) := by decide +kernel
theorem zd_Router_lay_14 : decode zc_Router_lay 14 = .ok (.invokevirtual 57, 3) := by decide +kernel
theorem zd_Router_lay_17 : decode zc_Router_lay 17 = .ok (.istore_n 2, 1) := by decide +kernel
theorem zd_Router_lay_18 : decode zc_Router_lay 18 = .ok (.iload_n 2, 1) := by decide +kernel
theorem zd_Router_lay_19 : decode zc_Router_lay 19 = .ok (.iconst (-1), 1) := by decide +kernel
theorem zd_Router_lay_20 : decode zc_Router_lay 20 = .ok (.if_icmp .eq 8, 3) := by decide +kernel
theorem zd_Router_lay_23 : decode zc_Router_lay 23 = .ok (.aload_n 0, 1) := by decide +kernel
theorem zd_Router_lay_24 : decode zc_Router_lay 24 = .ok (.iload_n 1, 1) := by decide +kernel
theorem zd_Router_lay_25 : decode zc_Router_lay 25 = .ok (.invokevirtual 61, 3) := by decide +kernel
theorem zd_Router_shove_37 : decode zc_Router_shove 37 = .ok (.iload_n 2, 1) := by decide +kernel
theorem zd_Router_shove_38 : decode zc_Router_shove 38 = .ok (.ireturn, 1) := by decide +kernel
theorem zd_Router_shove_0 : decode zc_Router_shove 0 = .ok (.aload_n 0, 1) := by decide +kernel
theorem zd_Router_shove_1 : decode zc_Router_shove 1 = .ok (.getfield 30, 3) := by decide +kernel
theorem zd_Router_shove_4 : decode zc_Router_shove 4 = .ok (.iload_n 1, 1) := by decide +kernel
theorem zd_Router_shove_5 : decode zc_Router_shove 5 = .ok (.invokevirtual 51, 3) := by decide +kernel
theorem zd_Router_shove_8 : decode zc_Router_shove 8 = .ok (.aload_n 0, 1) := by decide +kernel
theorem zd_Router_shove_9 : decode zc_Router_shove 9 = .ok (.getfield 47, 3) := by decide +kernel
theorem zd_Router_shove_12 : decode zc_Router_shove 12 = .ok (.iload_n 1, 1) := by decide +kernel
theorem zd_Router_shove_13 : decode zc_Router_shove 13 = .ok (.iconst 1, 1) := by decide +kernel
theorem zd_Router_shove_14 : decode zc_Router_shove 14 = .ok (.invokevirtual 57, 3) := by decide +kernel
theorem zd_Router_shove_17 : decode zc_Router_shove 17 = .ok (.istore_n 2, 1) := by decide +kernel
theorem zd_Router_shove_18 : decode zc_Router_shove 18 = .ok (.iload_n 2, 1) := by decide +kernel
theorem zd_Router_shove_19 : decode zc_Router_shove 19 = .ok (.iconst (-1), 1) := by decide +kernel
theorem zd_Router_shove_20 : decode zc_Router_shove 20 = .ok (.if_icmp .eq 17, 3) := by decide +kernel
theorem zd_Router_shove_23 : decode zc_Router_shove 23 = .ok (.aload_n 0, 1) := by decide +kernel
theorem zd_Router_shove_24 : decode zc_Router_shove 24 = .ok (.iload_n 1, 1) := by decide +kernel
theorem zd_Router_shove_25 : decode zc_Router_shove 25 = .ok (.invokevirtual 64, 3) := by decide +kernel
theorem zd_Router_shove_28 : decode zc_Router_shove 28 = .ok (.aload_n 0, 1) := by decide +kernel
theorem zd_Router_shove_29 : decode zc_Router_shove 29 = .ok (.invokevirtual 67, 3) := by decide +kernel
theorem zd_Router_shove_32 : decode zc_Router_shove 32 = .ok (.aload_n 0, 1) := by decide +kernel
theorem zd_Router_shove_33 : decode zc_Router_shove 33 = .ok (.iload_n 1, 1) := by decide +kernel
theorem zd_Router_shove_34 : decode zc_Router_shove 34 = .ok (.invokevirtual 61, 3) := by decide +kernel
theorem zd_Router_layWay_2 : decode zc_Router_layWay 2 = .ok (.iload_n 2, 1) := by decide +kernel
theorem zd_Router_layWay_3 : decode zc_Router_layWay 3 = .ok (.aload_n 0, 1) := by decide +kernel
theorem zd_Router_layWay_4 : decode zc_Router_layWay 4 = .ok (.getfield 47, 3) := by decide +kernel
theorem zd_Router_layWay_7 : decode zc_Router_layWay 7 = .ok (.getfield 70, 3) := by decide +kernel
theorem zd_Router_layWay_10 : decode zc_Router_layWay 10 = .ok (.if_icmp .ge 73, 3) := by decide +kernel
theorem zd_Router_layWay_83 : decode zc_Router_layWay 83 = .ok (.return_, 1) := by decide +kernel
theorem zd_Router_layWay_13 : decode zc_Router_layWay 13 = .ok (.aload_n 0, 1) := by decide +kernel
theorem zd_Router_layWay_14 : decode zc_Router_layWay 14 = .ok (.getfield 47, 3) := by decide +kernel
theorem zd_Router_layWay_17 : decode zc_Router_layWay 17 = .ok (.getfield 74, 3) := by decide +kernel
theorem zd_Router_layWay_20 : decode zc_Router_layWay 20 = .ok (.iload_n 2, 1) := by decide +kernel
theorem zd_Router_layWay_21 : decode zc_Router_layWay 21 = .ok (.iaload, 1) := by decide +kernel
theorem zd_Router_layWay_22 : decode zc_Router_layWay 22 = .ok (.istore_n 3, 1) := by decide +kernel
theorem zd_Router_layWay_23 : decode zc_Router_layWay 23 = .ok (.aload_n 0, 1) := by decide +kernel
theorem zd_Router_layWay_24 : decode zc_Router_layWay 24 = .ok (.getfield 30, 3) := by decide +kernel
theorem zd_Router_layWay_27 : decode zc_Router_layWay 27 = .ok (.getfield 78, 3) := by decide +kernel
theorem zd_Router_layWay_30 : decode zc_Router_layWay 30 = .ok (.iload_n 3, 1) := by decide +kernel
theorem zd_Router_layWay_31 : decode zc_Router_layWay 31 = .ok (.iload_n 1, 1) := by decide +kernel
theorem zd_Router_layWay_32 : decode zc_Router_layWay 32 = .ok (.iastore, 1) := by decide +kernel
theorem zd_Router_layWay_33 : decode zc_Router_layWay 33 = .ok (.iload_n 2, 1) := by decide +kernel
theorem zd_Router_layWay_34 : decode zc_Router_layWay 34 = .ok (.ifCond .le 43, 3) := by decide +kernel
theorem zd_Router_layWay_37 : decode zc_Router_layWay 37 = .ok (.aload_n 0, 1) := by decide +kernel
theorem zd_Router_layWay_38 : decode zc_Router_layWay 38 = .ok (.getfield 22, 3) := by decide +kernel
theorem zd_Router_layWay_41 : decode zc_Router_layWay 41 = .ok (.iload_n 3, 1) := by decide +kernel
theorem zd_Router_layWay_42 : decode zc_Router_layWay 42 = .ok (.iconst 4, 1) := by decide +kernel
theorem zd_Router_layWay_43 : decode zc_Router_layWay 43 = .ok (.invokevirtual 83, 3) := by decide +kernel
theorem zd_Router_layWay_46 : decode zc_Router_layWay 46 = .ok (.aload_n 0, 1) := by decide +kernel
theorem zd_Router_layWay_47 : decode zc_Router_layWay 47 = .ok (.getfield 47, 3) := by decide +kernel
theorem zd_Router_layWay_50 : decode zc_Router_layWay 50 = .ok (.getfield 74, 3) := by decide +kernel
theorem zd_Router_layWay_53 : decode zc_Router_layWay 53 = .ok (.iload_n 2, 1) := by decide +kernel
theorem zd_Router_layWay_54 : decode zc_Router_layWay 54 = .ok (.iconst 1, 1) := by decide +kernel
theorem zd_Router_layWay_55 : decode zc_Router_layWay 55 = .ok (.isub, 1) := by decide +kernel
theorem zd_Router_layWay_56 : decode zc_Router_layWay 56 = .ok (.iaload, 1) := by decide +kernel
theorem zd_Router_layWay_57 : decode zc_Router_layWay 57 = .ok (.if_icmp .ne 20, 3) := by decide +kernel
theorem zd_Router_layWay_60 : decode zc_Router_layWay 60 = .ok (.aload_n 0, 1) := by decide +kernel
theorem zd_Router_layWay_61 : decode zc_Router_layWay 61 = .ok (.getfield 30, 3) := by decide +kernel
theorem zd_Router_layWay_64 : decode zc_Router_layWay 64 = .ok (.getfield 87, 3) := by decide +kernel
theorem zd_Router_layWay_67 : decode zc_Router_layWay 67 = .ok (.aload_n 0, 1) := by decide +kernel
theorem zd_Router_layWay_68 : decode zc_Router_layWay 68 = .ok (.getfield 22, 3) := by decide +kernel
theorem zd_Router_layWay_71 : decode zc_Router_layWay 71 = .ok (.iload_n 3, 1) := by decide +kernel
theorem zd_Router_layWay_72 : decode zc_Router_layWay 72 = .ok (.invokevirtual 90, 3) := by decide +kernel
theorem zd_Router_layWay_75 : decode zc_Router_layWay 75 = .ok (.iconst 1, 1) := by decide +kernel
theorem zd_Router_layWay_76 : decode zc_Router_layWay 76 = .ok (.bastore, 1) := by decide +kernel
theorem zd_Router_layWay_77 : decode zc_Router_layWay 77 = .ok (.iinc 2 1, 3) := by decide +kernel
theorem zd_Router_layWay_80 : decode zc_Router_layWay 80 = .ok (.goto (-78), 3) := by decide +kernel
theorem zd_Router_layWay_0 : decode zc_Router_layWay 0 = .ok (.iconst 0, 1) := by decide +kernel
theorem zd_Router_layWay_1 : decode zc_Router_layWay 1 = .ok (.istore_n 2, 1) := by decide +kernel
theorem zd_Router_markPushedOut_2 : decode zc_Router_markPushedOut 2 = .ok (.iload_n 2, 1) := by decide +kernel
theorem zd_Router_markPushedOut_3 : decode zc_Router_markPushedOut 3 = .ok (.bipush 6, 2) := by decide +kernel
theorem zd_Router_markPushedOut_5 : decode zc_Router_markPushedOut 5 = .ok (.if_icmp .ge 16, 3) := by decide +kernel
theorem zd_Router_markPushedOut_21 : decode zc_Router_markPushedOut 21 = .ok (.iconst 0, 1) := by decide +kernel
theorem zd_Router_markPushedOut_22 : decode zc_Router_markPushedOut 22 = .ok (.istore_n 2, 1) := by decide +kernel
theorem zd_Router_markPushedOut_8 : decode zc_Router_markPushedOut 8 = .ok (.aload_n 0, 1) := by decide +kernel
theorem zd_Router_markPushedOut_9 : decode zc_Router_markPushedOut 9 = .ok (.getfield 18, 3) := by decide +kernel
theorem zd_Router_markPushedOut_12 : decode zc_Router_markPushedOut 12 = .ok (.iload_n 2, 1) := by decide +kernel
theorem zd_Router_markPushedOut_13 : decode zc_Router_markPushedOut 13 = .ok (.iconst 0, 1) := by decide +kernel
theorem zd_Router_markPushedOut_14 : decode zc_Router_markPushedOut 14 = .ok (.bastore, 1) := by decide +kernel
theorem zd_Router_markPushedOut_15 : decode zc_Router_markPushedOut 15 = .ok (.iinc 2 1, 3) := by decide +kernel
theorem zd_Router_markPushedOut_18 : decode zc_Router_markPushedOut 18 = .ok (.goto (-16), 3) := by decide +kernel
theorem zd_Router_markPushedOut_23 : decode zc_Router_markPushedOut 23 = .ok (.iload_n 2, 1) := by decide +kernel
theorem zd_Router_markPushedOut_24 : decode zc_Router_markPushedOut 24 = .ok (.aload_n 0, 1) := by decide +kernel
theorem zd_Router_markPushedOut_25 : decode zc_Router_markPushedOut 25 = .ok (.getfield 47, 3) := by decide +kernel
theorem zd_Router_markPushedOut_28 : decode zc_Router_markPushedOut 28 = .ok (.getfield 70, 3) := by decide +kernel
theorem zd_Router_markPushedOut_31 : decode zc_Router_markPushedOut 31 = .ok (.if_icmp .ge 65, 3) := by decide +kernel
theorem zd_Router_markPushedOut_96 : decode zc_Router_markPushedOut 96 = .ok (.return_, 1) := by decide +kernel
theorem zd_Router_markPushedOut_34 : decode zc_Router_markPushedOut 34 = .ok (.aload_n 0, 1) := by decide +kernel
theorem zd_Router_markPushedOut_35 : decode zc_Router_markPushedOut 35 = .ok (.getfield 47, 3) := by decide +kernel
theorem zd_Router_markPushedOut_38 : decode zc_Router_markPushedOut 38 = .ok (.getfield 74, 3) := by decide +kernel
theorem zd_Router_markPushedOut_41 : decode zc_Router_markPushedOut 41 = .ok (.iload_n 2, 1) := by decide +kernel
theorem zd_Router_markPushedOut_42 : decode zc_Router_markPushedOut 42 = .ok (.iaload, 1) := by decide +kernel
theorem zd_Router_markPushedOut_43 : decode zc_Router_markPushedOut 43 = .ok (.istore_n 3, 1) := by decide +kernel
theorem zd_Router_markPushedOut_44 : decode zc_Router_markPushedOut 44 = .ok (.aload_n 0, 1) := by decide +kernel
theorem zd_Router_markPushedOut_45 : decode zc_Router_markPushedOut 45 = .ok (.iload_n 3, 1) := by decide +kernel
theorem zd_Router_markPushedOut_46 : decode zc_Router_markPushedOut 46 = .ok (.iload_n 1, 1) := by decide +kernel
theorem zd_Router_markPushedOut_47 : decode zc_Router_markPushedOut 47 = .ok (.invokevirtual 94, 3) := by decide +kernel
theorem zd_Router_markPushedOut_50 : decode zc_Router_markPushedOut 50 = .ok (.aload_n 0, 1) := by decide +kernel
theorem zd_Router_markPushedOut_51 : decode zc_Router_markPushedOut 51 = .ok (.getfield 34, 3) := by decide +kernel
theorem zd_Router_markPushedOut_54 : decode zc_Router_markPushedOut 54 = .ok (.getfield 98, 3) := by decide +kernel
theorem zd_Router_markPushedOut_57 : decode zc_Router_markPushedOut 57 = .ok (.ifCond .eq 33, 3) := by decide +kernel
theorem zd_Router_markPushedOut_60 : decode zc_Router_markPushedOut 60 = .ok (.iconst 0, 1) := by decide +kernel
theorem zd_Router_markPushedOut_61 : decode zc_Router_markPushedOut 61 = .ok (.istore 4, 2) := by decide +kernel
theorem zd_Router_markPushedOut_63 : decode zc_Router_markPushedOut 63 = .ok (.iload 4, 2) := by decide +kernel
theorem zd_Router_markPushedOut_65 : decode zc_Router_markPushedOut 65 = .ok (.iconst 4, 1) := by decide +kernel
theorem zd_Router_markPushedOut_66 : decode zc_Router_markPushedOut 66 = .ok (.if_icmp .ge 24, 3) := by decide +kernel
theorem zd_Router_markPushedOut_69 : decode zc_Router_markPushedOut 69 = .ok (.aload_n 0, 1) := by decide +kernel
theorem zd_Router_markPushedOut_70 : decode zc_Router_markPushedOut 70 = .ok (.aload_n 0, 1) := by decide +kernel
theorem zd_Router_markPushedOut_71 : decode zc_Router_markPushedOut 71 = .ok (.getfield 22, 3) := by decide +kernel
theorem zd_Router_markPushedOut_74 : decode zc_Router_markPushedOut 74 = .ok (.iload_n 3, 1) := by decide +kernel
theorem zd_Router_markPushedOut_75 : decode zc_Router_markPushedOut 75 = .ok (.iload 4, 2) := by decide +kernel
theorem zd_Router_markPushedOut_77 : decode zc_Router_markPushedOut 77 = .ok (.invokevirtual 83, 3) := by decide +kernel
theorem zd_Router_markPushedOut_80 : decode zc_Router_markPushedOut 80 = .ok (.iload_n 1, 1) := by decide +kernel
theorem zd_Router_markPushedOut_81 : decode zc_Router_markPushedOut 81 = .ok (.invokevirtual 94, 3) := by decide +kernel
theorem zd_Router_markPushedOut_84 : decode zc_Router_markPushedOut 84 = .ok (.iinc 4 1, 3) := by decide +kernel
theorem zd_Router_markPushedOut_87 : decode zc_Router_markPushedOut 87 = .ok (.goto (-24), 3) := by decide +kernel
theorem zd_Router_markPushedOut_90 : decode zc_Router_markPushedOut 90 = .ok (.iinc 2 1, 3) := by decide +kernel
theorem zd_Router_markPushedOut_93 : decode zc_Router_markPushedOut 93 = .ok (.goto (-70), 3) := by decide +kernel
theorem zd_Router_markPushedOut_0 : decode zc_Router_markPushedOut 0 = .ok (.iconst 0, 1) := by decide +kernel
theorem zd_Router_markPushedOut_1 : decode zc_Router_markPushedOut 1 = .ok (.istore_n 2, 1) := by decide +kernel
theorem zd_Router_markHolder_46 : decode zc_Router_markHolder 46 = .ok (.return_, 1) := by decide +kernel
theorem zd_Router_markHolder_0 : decode zc_Router_markHolder 0 = .ok (.iload_n 1, 1) := by decide +kernel
theorem zd_Router_markHolder_1 : decode zc_Router_markHolder 1 = .ok (.iconst (-1), 1) := by decide +kernel
theorem zd_Router_markHolder_2 : decode zc_Router_markHolder 2 = .ok (.if_icmp .eq 44, 3) := by decide +kernel
theorem zd_Router_markHolder_5 : decode zc_Router_markHolder 5 = .ok (.aload_n 0, 1) := by decide +kernel
theorem zd_Router_markHolder_6 : decode zc_Router_markHolder 6 = .ok (.getfield 30, 3) := by decide +kernel
theorem zd_Router_markHolder_9 : decode zc_Router_markHolder 9 = .ok (.getfield 78, 3) := by decide +kernel
theorem zd_Router_markHolder_12 : decode zc_Router_markHolder 12 = .ok (.iload_n 1, 1) := by decide +kernel
theorem zd_Router_markHolder_13 : decode zc_Router_markHolder 13 = .ok (.iaload, 1) := by decide +kernel
theorem zd_Router_markHolder_14 : decode zc_Router_markHolder 14 = .ok (.iconst (-1), 1) := by decide +kernel
theorem zd_Router_markHolder_15 : decode zc_Router_markHolder 15 = .ok (.if_icmp .eq 31, 3) := by decide +kernel
theorem zd_Router_markHolder_18 : decode zc_Router_markHolder 18 = .ok (.aload_n 0, 1) := by decide +kernel
theorem zd_Router_markHolder_19 : decode zc_Router_markHolder 19 = .ok (.getfield 30, 3) := by decide +kernel
theorem zd_Router_markHolder_22 : decode zc_Router_markHolder 22 = .ok (.getfield 78, 3) := by decide +kernel
theorem zd_Router_markHolder_25 : decode zc_Router_markHolder 25 = .ok (.iload_n 1, 1) := by decide +kernel
theorem zd_Router_markHolder_26 : decode zc_Router_markHolder 26 = .ok (.iaload, 1) := by decide +kernel
theorem zd_Router_markHolder_27 : decode zc_Router_markHolder 27 = .ok (.iload_n 2, 1) := by decide +kernel
theorem zd_Router_markHolder_28 : decode zc_Router_markHolder 28 = .ok (.if_icmp .eq 18, 3) := by decide +kernel
theorem zd_Router_markHolder_31 : decode zc_Router_markHolder 31 = .ok (.aload_n 0, 1) := by decide +kernel
theorem zd_Router_markHolder_32 : decode zc_Router_markHolder 32 = .ok (.getfield 18, 3) := by decide +kernel
theorem zd_Router_markHolder_35 : decode zc_Router_markHolder 35 = .ok (.aload_n 0, 1) := by decide +kernel
theorem zd_Router_markHolder_36 : decode zc_Router_markHolder 36 = .ok (.getfield 30, 3) := by decide +kernel
theorem zd_Router_markHolder_39 : decode zc_Router_markHolder 39 = .ok (.getfield 78, 3) := by decide +kernel
theorem zd_Router_markHolder_42 : decode zc_Router_markHolder 42 = .ok (.iload_n 1, 1) := by decide +kernel
theorem zd_Router_markHolder_43 : decode zc_Router_markHolder 43 = .ok (.iaload, 1) := by decide +kernel
theorem zd_Router_markHolder_44 : decode zc_Router_markHolder 44 = .ok (.iconst 1, 1) := by decide +kernel
theorem zd_Router_markHolder_45 : decode zc_Router_markHolder 45 = .ok (.bastore, 1) := by decide +kernel
theorem zd_Router_stripPushedOut_2 : decode zc_Router_stripPushedOut 2 = .ok (.iload_n 1, 1) := by decide +kernel
theorem zd_Router_stripPushedOut_3 : decode zc_Router_stripPushedOut 3 = .ok (.aload_n 0, 1) := by decide +kernel
theorem zd_Router_stripPushedOut_4 : decode zc_Router_stripPushedOut 4 = .ok (.getfield 26, 3) := by decide +kernel
theorem zd_Router_stripPushedOut_7 : decode zc_Router_stripPushedOut 7 = .ok (.getfield 104, 3) := by decide +kernel
theorem zd_Router_stripPushedOut_10 : decode zc_Router_stripPushedOut 10 = .ok (.if_icmp .ge 26, 3) := by decide +kernel
theorem zd_Router_stripPushedOut_36 : decode zc_Router_stripPushedOut 36 = .ok (.iconst 0, 1) := by decide +kernel
theorem zd_Router_stripPushedOut_37 : decode zc_Router_stripPushedOut 37 = .ok (.istore_n 1, 1) := by decide +kernel
theorem zd_Router_stripPushedOut_13 : decode zc_Router_stripPushedOut 13 = .ok (.aload_n 0, 1) := by decide +kernel
theorem zd_Router_stripPushedOut_14 : decode zc_Router_stripPushedOut 14 = .ok (.getfield 18, 3) := by decide +kernel
theorem zd_Router_stripPushedOut_17 : decode zc_Router_stripPushedOut 17 = .ok (.iload_n 1, 1) := by decide +kernel
theorem zd_Router_stripPushedOut_18 : decode zc_Router_stripPushedOut 18 = .ok (.baload, 1) := by decide +kernel
theorem zd_Router_stripPushedOut_19 : decode zc_Router_stripPushedOut 19 = .ok (.ifCond .eq 11, 3) := by decide +kernel
theorem zd_Router_stripPushedOut_22 : decode zc_Router_stripPushedOut 22 = .ok (.aload_n 0, 1) := by decide +kernel
theorem zd_Router_stripPushedOut_23 : decode zc_Router_stripPushedOut 23 = .ok (.getfield 30, 3) := by decide +kernel
theorem zd_Router_stripPushedOut_26 : decode zc_Router_stripPushedOut 26 = .ok (.iload_n 1, 1) := by decide +kernel
theorem zd_Router_stripPushedOut_27 : decode zc_Router_stripPushedOut 27 = .ok (.invokevirtual 109, 3) := by decide +kernel
theorem zd_Router_stripPushedOut_30 : decode zc_Router_stripPushedOut 30 = .ok (.iinc 1 1, 3) := by decide +kernel
theorem zd_Router_stripPushedOut_33 : decode zc_Router_stripPushedOut 33 = .ok (.goto (-31), 3) := by decide +kernel
theorem zd_Router_stripPushedOut_38 : decode zc_Router_stripPushedOut 38 = .ok (.iload_n 1, 1) := by decide +kernel
theorem zd_Router_stripPushedOut_39 : decode zc_Router_stripPushedOut 39 = .ok (.aload_n 0, 1) := by decide +kernel
theorem zd_Router_stripPushedOut_40 : decode zc_Router_stripPushedOut 40 = .ok (.getfield 26, 3) := by decide +kernel
theorem zd_Router_stripPushedOut_43 : decode zc_Router_stripPushedOut 43 = .ok (.getfield 104, 3) := by decide +kernel
theorem zd_Router_stripPushedOut_46 : decode zc_Router_stripPushedOut 46 = .ok (.if_icmp .ge 26, 3) := by decide +kernel
theorem zd_Router_stripPushedOut_72 : decode zc_Router_stripPushedOut 72 = .ok (.return_, 1) := by decide +kernel
theorem zd_Router_stripPushedOut_49 : decode zc_Router_stripPushedOut 49 = .ok (.aload_n 0, 1) := by decide +kernel
theorem zd_Router_stripPushedOut_50 : decode zc_Router_stripPushedOut 50 = .ok (.getfield 18, 3) := by decide +kernel
theorem zd_Router_stripPushedOut_53 : decode zc_Router_stripPushedOut 53 = .ok (.iload_n 1, 1) := by decide +kernel
theorem zd_Router_stripPushedOut_54 : decode zc_Router_stripPushedOut 54 = .ok (.baload, 1) := by decide +kernel
theorem zd_Router_stripPushedOut_55 : decode zc_Router_stripPushedOut 55 = .ok (.ifCond .eq 11, 3) := by decide +kernel
theorem zd_Router_stripPushedOut_58 : decode zc_Router_stripPushedOut 58 = .ok (.aload_n 0, 1) := by decide +kernel
theorem zd_Router_stripPushedOut_59 : decode zc_Router_stripPushedOut 59 = .ok (.getfield 30, 3) := by decide +kernel
theorem zd_Router_stripPushedOut_62 : decode zc_Router_stripPushedOut 62 = .ok (.iload_n 1, 1) := by decide +kernel
theorem zd_Router_stripPushedOut_63 : decode zc_Router_stripPushedOut 63 = .ok (.invokevirtual 112, 3) := by decide +kernel
theorem zd_Router_stripPushedOut_66 : decode zc_Router_stripPushedOut 66 = .ok (.iinc 1 1, 3) := by decide +kernel
theorem zd_Router_stripPushedOut_69 : decode zc_Router_stripPushedOut 69 = .ok (.goto (-31), 3) := by decide +kernel
theorem zd_Router_stripPushedOut_0 : decode zc_Router_stripPushedOut 0 = .ok (.iconst 0, 1) := by decide +kernel
theorem zd_Router_stripPushedOut_1 : decode zc_Router_stripPushedOut 1 = .ok (.istore_n 1, 1) := by decide +kernel
theorem zd_Router_lineUp_2 : decode zc_Router_lineUp 2 = .ok (.iload_n 2, 1) := by decide +kernel
theorem zd_Router_lineUp_3 : decode zc_Router_lineUp 3 = .ok (.aload_n 0, 1) := by decide +kernel
theorem zd_Router_lineUp_4 : decode zc_Router_lineUp 4 = .ok (.getfield 26, 3) := by decide +kernel
theorem zd_Router_lineUp_7 : decode zc_Router_lineUp 7 = .ok (.getfield 104, 3) := by decide +kernel
theorem zd_Router_lineUp_10 : decode zc_Router_lineUp 10 = .ok (.if_icmp .ge 25, 3) := by decide +kernel
theorem zd_Router_lineUp_35 : decode zc_Router_lineUp 35 = .ok (.iload_n 1, 1) := by decide +kernel
theorem zd_Router_lineUp_36 : decode zc_Router_lineUp 36 = .ok (.ifCond .eq 14, 3) := by decide +kernel
theorem zd_Router_lineUp_39 : decode zc_Router_lineUp 39 = .ok (.aload_n 0, 1) := by decide +kernel
theorem zd_Router_lineUp_40 : decode zc_Router_lineUp 40 = .ok (.getfield 12, 3) := by decide +kernel
theorem zd_Router_lineUp_43 : decode zc_Router_lineUp 43 = .ok (.aload_n 0, 1) := by decide +kernel
theorem zd_Router_lineUp_44 : decode zc_Router_lineUp 44 = .ok (.getfield 26, 3) := by decide +kernel
theorem zd_Router_lineUp_47 : decode zc_Router_lineUp 47 = .ok (.invokevirtual 118, 3) := by decide +kernel
theorem zd_Router_lineUp_13 : decode zc_Router_lineUp 13 = .ok (.aload_n 0, 1) := by decide +kernel
theorem zd_Router_lineUp_14 : decode zc_Router_lineUp 14 = .ok (.getfield 30, 3) := by decide +kernel
theorem zd_Router_lineUp_17 : decode zc_Router_lineUp 17 = .ok (.iload_n 2, 1) := by decide +kernel
theorem zd_Router_lineUp_18 : decode zc_Router_lineUp 18 = .ok (.invokevirtual 51, 3) := by decide +kernel
theorem zd_Router_lineUp_21 : decode zc_Router_lineUp 21 = .ok (.aload_n 0, 1) := by decide +kernel
theorem zd_Router_lineUp_22 : decode zc_Router_lineUp 22 = .ok (.getfield 12, 3) := by decide +kernel
theorem zd_Router_lineUp_25 : decode zc_Router_lineUp 25 = .ok (.iload_n 2, 1) := by decide +kernel
theorem zd_Router_lineUp_26 : decode zc_Router_lineUp 26 = .ok (.invokevirtual 115, 3) := by decide +kernel
theorem zd_Router_lineUp_29 : decode zc_Router_lineUp 29 = .ok (.iinc 2 1, 3) := by decide +kernel
theorem zd_Router_lineUp_32 : decode zc_Router_lineUp 32 = .ok (.goto (-30), 3) := by decide +kernel
theorem zd_Router_lineUp_50 : decode zc_Router_lineUp 50 = .ok (.return_, 1) := by decide +kernel
theorem zd_Router_lineUp_0 : decode zc_Router_lineUp 0 = .ok (.iconst 0, 1) := by decide +kernel
theorem zd_Router_lineUp_1 : decode zc_Router_lineUp 1 = .ok (.istore_n 2, 1) := by decide +kernel
theorem zd_Router_serveLine_4 : decode zc_Router_serveLine 4 = .ok (.iload_n 3, 1) := by decide +kernel
theorem zd_Router_serveLine_5 : decode zc_Router_serveLine 5 = .ok (.bipush 126, 2) := by decide +kernel
theorem zd_Router_serveLine_7 : decode zc_Router_serveLine 7 = .ok (.if_icmp .ge 60, 3) := by decide +kernel
theorem zd_Router_serveLine_10 : decode zc_Router_serveLine 10 = .ok (.aload_n 0, 1) := by decide +kernel
theorem zd_Router_serveLine_11 : decode zc_Router_serveLine 11 = .ok (.getfield 12, 3) := by decide +kernel
theorem zd_Router_serveLine_14 : decode zc_Router_serveLine 14 = .ok (.invokevirtual 122, 3) := by decide +kernel
theorem zd_Router_serveLine_17 : decode zc_Router_serveLine 17 = .ok (.ifCond .ne 50, 3) := by decide +kernel
theorem zd_Router_serveLine_20 : decode zc_Router_serveLine 20 = .ok (.aload_n 0, 1) := by decide +kernel
theorem zd_Router_serveLine_21 : decode zc_Router_serveLine 21 = .ok (.getfield 12, 3) := by decide +kernel
theorem zd_Router_serveLine_24 : decode zc_Router_serveLine 24 = .ok (.invokevirtual 126, 3) := by decide +kernel
theorem zd_Router_serveLine_27 : decode zc_Router_serveLine 27 = .ok (.istore 4, 2) := by decide +kernel
theorem zd_Router_serveLine_29 : decode zc_Router_serveLine 29 = .ok (.aload_n 0, 1) := by decide +kernel
theorem zd_Router_serveLine_30 : decode zc_Router_serveLine 30 = .ok (.iload 4, 2) := by decide +kernel
theorem zd_Router_serveLine_32 : decode zc_Router_serveLine 32 = .ok (.invokevirtual 130, 3) := by decide +kernel
theorem zd_Router_serveLine_35 : decode zc_Router_serveLine 35 = .ok (.iconst (-1), 1) := by decide +kernel
theorem zd_Router_serveLine_36 : decode zc_Router_serveLine 36 = .ok (.if_icmp .ne 25, 3) := by decide +kernel
theorem zd_Router_serveLine_39 : decode zc_Router_serveLine 39 = .ok (.iload_n 2, 1) := by decide +kernel
theorem zd_Router_serveLine_40 : decode zc_Router_serveLine 40 = .ok (.iload_n 1, 1) := by decide +kernel
theorem zd_Router_serveLine_41 : decode zc_Router_serveLine 41 = .ok (.if_icmp .ge 20, 3) := by decide +kernel
theorem zd_Router_serveLine_44 : decode zc_Router_serveLine 44 = .ok (.aload_n 0, 1) := by decide +kernel
theorem zd_Router_serveLine_45 : decode zc_Router_serveLine 45 = .ok (.iload 4, 2) := by decide +kernel
theorem zd_Router_serveLine_47 : decode zc_Router_serveLine 47 = .ok (.invokevirtual 133, 3) := by decide +kernel
theorem zd_Router_serveLine_50 : decode zc_Router_serveLine 50 = .ok (.iconst (-1), 1) := by decide +kernel
theorem zd_Router_serveLine_51 : decode zc_Router_serveLine 51 = .ok (.if_icmp .eq 10, 3) := by decide +kernel
theorem zd_Router_serveLine_54 : decode zc_Router_serveLine 54 = .ok (.iinc 2 1, 3) := by decide +kernel
theorem zd_Router_serveLine_57 : decode zc_Router_serveLine 57 = .ok (.aload_n 0, 1) := by decide +kernel
theorem zd_Router_serveLine_58 : decode zc_Router_serveLine 58 = .ok (.invokevirtual 136, 3) := by decide +kernel
theorem zd_Router_serveLine_61 : decode zc_Router_serveLine 61 = .ok (.iinc 3 1, 3) := by decide +kernel
theorem zd_Router_serveLine_64 : decode zc_Router_serveLine 64 = .ok (.goto (-60), 3) := by decide +kernel
theorem zd_Router_serveLine_67 : decode zc_Router_serveLine 67 = .ok (.return_, 1) := by decide +kernel
theorem zd_Router_serveLine_0 : decode zc_Router_serveLine 0 = .ok (.iconst 0, 1) := by decide +kernel
theorem zd_Router_serveLine_1 : decode zc_Router_serveLine 1 = .ok (.istore_n 2, 1) := by decide +kernel
theorem zd_Router_serveLine_2 : decode zc_Router_serveLine 2 = .ok (.iconst 0, 1) := by decide +kernel
theorem zd_Router_serveLine_3 : decode zc_Router_serveLine 3 = .ok (.istore_n 3, 1) := by decide +kernel
theorem zd_Router_lineUpPushedOut_2 : decode zc_Router_lineUpPushedOut 2 = .ok (.iload_n 1, 1) := by decide +kernel
theorem zd_Router_lineUpPushedOut_3 : decode zc_Router_lineUpPushedOut 3 = .ok (.aload_n 0, 1) := by decide +kernel
theorem zd_Router_lineUpPushedOut_4 : decode zc_Router_lineUpPushedOut 4 = .ok (.getfield 26, 3) := by decide +kernel
theorem zd_Router_lineUpPushedOut_7 : decode zc_Router_lineUpPushedOut 7 = .ok (.getfield 104, 3) := by decide +kernel
theorem zd_Router_lineUpPushedOut_10 : decode zc_Router_lineUpPushedOut 10 = .ok (.if_icmp .ge 26, 3) := by decide +kernel
theorem zd_Router_lineUpPushedOut_36 : decode zc_Router_lineUpPushedOut 36 = .ok (.return_, 1) := by decide +kernel
theorem zd_Router_lineUpPushedOut_13 : decode zc_Router_lineUpPushedOut 13 = .ok (.aload_n 0, 1) := by decide +kernel
theorem zd_Router_lineUpPushedOut_14 : decode zc_Router_lineUpPushedOut 14 = .ok (.getfield 18, 3) := by decide +kernel
theorem zd_Router_lineUpPushedOut_17 : decode zc_Router_lineUpPushedOut 17 = .ok (.iload_n 1, 1) := by decide +kernel
theorem zd_Router_lineUpPushedOut_18 : decode zc_Router_lineUpPushedOut 18 = .ok (.baload, 1) := by decide +kernel
theorem zd_Router_lineUpPushedOut_19 : decode zc_Router_lineUpPushedOut 19 = .ok (.ifCond .eq 11, 3) := by decide +kernel
theorem zd_Router_lineUpPushedOut_22 : decode zc_Router_lineUpPushedOut 22 = .ok (.aload_n 0, 1) := by decide +kernel
theorem zd_Router_lineUpPushedOut_23 : decode zc_Router_lineUpPushedOut 23 = .ok (.getfield 12, 3) := by decide +kernel
theorem zd_Router_lineUpPushedOut_26 : decode zc_Router_lineUpPushedOut 26 = .ok (.iload_n 1, 1) := by decide +kernel
theorem zd_Router_lineUpPushedOut_27 : decode zc_Router_lineUpPushedOut 27 = .ok (.invokevirtual 115, 3) := by decide +kernel
theorem zd_Router_lineUpPushedOut_30 : decode zc_Router_lineUpPushedOut 30 = .ok (.iinc 1 1, 3) := by decide +kernel
theorem zd_Router_lineUpPushedOut_33 : decode zc_Router_lineUpPushedOut 33 = .ok (.goto (-31), 3) := by decide +kernel
theorem zd_Router_lineUpPushedOut_0 : decode zc_Router_lineUpPushedOut 0 = .ok (.iconst 0, 1) := by decide +kernel
theorem zd_Router_lineUpPushedOut_1 : decode zc_Router_lineUpPushedOut 1 = .ok (.istore_n 1, 1) := by decide +kernel
theorem zd_Router_retryLoose_4 : decode zc_Router_retryLoose 4 = .ok (.iload_n 2, 1) := by decide +kernel
theorem zd_Router_retryLoose_5 : decode zc_Router_retryLoose 5 = .ok (.bipush 6, 2) := by decide +kernel
theorem zd_Router_retryLoose_7 : decode zc_Router_retryLoose 7 = .ok (.if_icmp .gt 56, 3) := by decide +kernel
theorem zd_Router_retryLoose_10 : decode zc_Router_retryLoose 10 = .ok (.iload_n 1, 1) := by decide +kernel
theorem zd_Router_retryLoose_11 : decode zc_Router_retryLoose 11 = .ok (.ifCond .eq 52, 3) := by decide +kernel
theorem zd_Router_retryLoose_14 : decode zc_Router_retryLoose 14 = .ok (.iconst 0, 1) := by decide +kernel
theorem zd_Router_retryLoose_15 : decode zc_Router_retryLoose 15 = .ok (.istore_n 1, 1) := by decide +kernel
theorem zd_Router_retryLoose_16 : decode zc_Router_retryLoose 16 = .ok (.iconst 0, 1) := by decide +kernel
theorem zd_Router_retryLoose_17 : decode zc_Router_retryLoose 17 = .ok (.istore_n 3, 1) := by decide +kernel
theorem zd_Router_retryLoose_18 : decode zc_Router_retryLoose 18 = .ok (.iload_n 3, 1) := by decide +kernel
theorem zd_Router_retryLoose_19 : decode zc_Router_retryLoose 19 = .ok (.aload_n 0, 1) := by decide +kernel
theorem zd_Router_retryLoose_20 : decode zc_Router_retryLoose 20 = .ok (.getfield 26, 3) := by decide +kernel
theorem zd_Router_retryLoose_23 : decode zc_Router_retryLoose 23 = .ok (.getfield 104, 3) := by decide +kernel
theorem zd_Router_retryLoose_26 : decode zc_Router_retryLoose 26 = .ok (.if_icmp .ge 31, 3) := by decide +kernel
theorem zd_Router_retryLoose_57 : decode zc_Router_retryLoose 57 = .ok (.iinc 2 1, 3) := by decide +kernel
theorem zd_Router_retryLoose_60 : decode zc_Router_retryLoose 60 = .ok (.goto (-56), 3) := by decide +kernel
theorem zd_Router_retryLoose_29 : decode zc_Router_retryLoose 29 = .ok (.aload_n 0, 1) := by decide +kernel
theorem zd_Router_retryLoose_30 : decode zc_Router_retryLoose 30 = .ok (.getfield 38, 3) := by decide +kernel
theorem zd_Router_retryLoose_33 : decode zc_Router_retryLoose 33 = .ok (.iload_n 3, 1) := by decide +kernel
theorem zd_Router_retryLoose_34 : decode zc_Router_retryLoose 34 = .ok (.invokevirtual 139, 3) := by decide +kernel
theorem zd_Router_retryLoose_37 : decode zc_Router_retryLoose 37 = .ok (.ifCond .ne 14, 3) := by decide +kernel
theorem zd_Router_retryLoose_40 : decode zc_Router_retryLoose 40 = .ok (.aload_n 0, 1) := by decide +kernel
theorem zd_Router_retryLoose_41 : decode zc_Router_retryLoose 41 = .ok (.iload_n 3, 1) := by decide +kernel
theorem zd_Router_retryLoose_42 : decode zc_Router_retryLoose 42 = .ok (.invokevirtual 130, 3) := by decide +kernel
theorem zd_Router_retryLoose_45 : decode zc_Router_retryLoose 45 = .ok (.iconst (-1), 1) := by decide +kernel
theorem zd_Router_retryLoose_46 : decode zc_Router_retryLoose 46 = .ok (.if_icmp .eq 5, 3) := by decide +kernel
theorem zd_Router_retryLoose_49 : decode zc_Router_retryLoose 49 = .ok (.iconst 1, 1) := by decide +kernel
theorem zd_Router_retryLoose_50 : decode zc_Router_retryLoose 50 = .ok (.istore_n 1, 1) := by decide +kernel
theorem zd_Router_retryLoose_51 : decode zc_Router_retryLoose 51 = .ok (.iinc 3 1, 3) := by decide +kernel
theorem zd_Router_retryLoose_54 : decode zc_Router_retryLoose 54 = .ok (.goto (-36), 3) := by decide +kernel
theorem zd_Router_retryLoose_63 : decode zc_Router_retryLoose 63 = .ok (.return_, 1) := by decide +kernel
theorem zd_Router_retryLoose_0 : decode zc_Router_retryLoose 0 = .ok (.iconst 1, 1) := by decide +kernel
theorem zd_Router_retryLoose_1 : decode zc_Router_retryLoose 1 = .ok (.istore_n 1, 1) := by decide +kernel
theorem zd_Router_retryLoose_2 : decode zc_Router_retryLoose 2 = .ok (.iconst 0, 1) := by decide +kernel
theorem zd_Router_retryLoose_3 : decode zc_Router_retryLoose 3 = .ok (.istore_n 2, 1) := by decide +kernel
theorem zd_Rules_isBarred_25 : decode zc_Rules_isBarred 25 = .ok (.iconst 1, 1) := by decide +kernel
theorem zd_Rules_isBarred_26 : decode zc_Rules_isBarred 26 = .ok (.goto 4, 3) := by decide +kernel
theorem zd_Rules_isBarred_30 : decode zc_Rules_isBarred 30 = .ok (.ireturn, 1) := by decide +kernel
theorem zd_Rules_isBarred_0 : decode zc_Rules_isBarred 0 = .ok (.aload_n 0, 1) := by decide +kernel
theorem zd_Rules_isBarred_1 : decode zc_Rules_isBarred 1 = .ok (.getfield 33, 3) := by decide +kernel
theorem zd_Rules_isBarred_4 : decode zc_Rules_isBarred 4 = .ok (.iload_n 1, 1) := by decide +kernel
theorem zd_Rules_isBarred_5 : decode zc_Rules_isBarred 5 = .ok (.baload, 1) := by decide +kernel
theorem zd_Rules_isBarred_6 : decode zc_Rules_isBarred 6 = .ok (.ifCond .ne 19, 3) := by decide +kernel
theorem zd_Rules_isBarred_9 : decode zc_Rules_isBarred 9 = .ok (.aload_n 0, 1) := by decide +kernel
theorem zd_Rules_isBarred_10 : decode zc_Rules_isBarred 10 = .ok (.aload_n 0, 1) := by decide +kernel
theorem zd_Rules_isBarred_11 : decode zc_Rules_isBarred 11 = .ok (.getfield 15, 3) := by decide +kernel
theorem zd_Rules_isBarred_14 : decode zc_Rules_isBarred 14 = .ok (.getfield 37, 3) := by decide +kernel
theorem zd_Rules_isBarred_17 : decode zc_Rules_isBarred 17 = .ok (.iload_n 1, 1) := by decide +kernel
theorem zd_Rules_isBarred_18 : decode zc_Rules_isBarred 18 = .ok (.iload_n 2, 1) := by decide +kernel
theorem zd_Rules_isBarred_19 : decode zc_Rules_isBarred 19 = .ok (.invokevirtual 43, 3) := by decide +kernel
theorem zd_Rules_isBarred_22 : decode zc_Rules_isBarred 22 = .ok (.ifCond .eq 7, 3) := by decide +kernel
theorem zd_Rules_isBarred_29 : decode zc_Rules_isBarred 29 = .ok (.iconst 0, 1) := by decide +kernel
theorem zd_Rules_isTaken_0 : decode zc_Rules_isTaken 0 = .ok (.aload_n 0, 1) := by decide +kernel
theorem zd_Rules_isTaken_1 : decode zc_Rules_isTaken 1 = .ok (.aload_n 0, 1) := by decide +kernel
theorem zd_Rules_isTaken_2 : decode zc_Rules_isTaken 2 = .ok (.getfield 19, 3) := by decide +kernel
theorem zd_Rules_isTaken_5 : decode zc_Rules_isTaken 5 = .ok (.getfield 47, 3) := by decide +kernel
theorem zd_Rules_isTaken_8 : decode zc_Rules_isTaken 8 = .ok (.iload_n 1, 1) := by decide +kernel
theorem zd_Rules_isTaken_9 : decode zc_Rules_isTaken 9 = .ok (.iload_n 2, 1) := by decide +kernel
theorem zd_Rules_isTaken_10 : decode zc_Rules_isTaken 10 = .ok (.invokevirtual 43, 3) := by decide +kernel
theorem zd_Rules_isTaken_13 : decode zc_Rules_isTaken 13 = .ok (.ireturn, 1) := by decide +kernel
theorem zd_Rules_isClose_16 : decode zc_Rules_isClose 16 = .ok (.iload_n 2, 1) := by decide +kernel
theorem zd_Rules_isClose_17 : decode zc_Rules_isClose 17 = .ok (.iconst 5, 1) := by decide +kernel
theorem zd_Rules_isClose_18 : decode zc_Rules_isClose 18 = .ok (.imul, 1) := by decide +kernel
theorem zd_Rules_isClose_19 : decode zc_Rules_isClose 19 = .ok (.istore 4, 2) := by decide +kernel
theorem zd_Rules_isClose_21 : decode zc_Rules_isClose 21 = .ok (.aload_n 0, 1) := by decide +kernel
theorem zd_Rules_isClose_22 : decode zc_Rules_isClose 22 = .ok (.getfield 23, 3) := by decide +kernel
theorem zd_Rules_isClose_25 : decode zc_Rules_isClose 25 = .ok (.ifCond .eq 7, 3) := by decide +kernel
theorem zd_Rules_isClose_32 : decode zc_Rules_isClose 32 = .ok (.iconst 0, 1) := by decide +kernel
theorem zd_Rules_isClose_28 : decode zc_Rules_isClose 28 = .ok (.iconst 4, 1) := by decide +kernel
theorem zd_Rules_isClose_29 : decode zc_Rules_isClose 29 = .ok (.goto 4, 3) := by decide +kernel
theorem zd_Rules_isClose_33 : decode zc_Rules_isClose 33 = .ok (.istore 5, 2) := by decide +kernel
theorem zd_Rules_isClose_35 : decode zc_Rules_isClose 35 = .ok (.iconst 0, 1) := by decide +kernel
theorem zd_Rules_isClose_36 : decode zc_Rules_isClose 36 = .ok (.istore 6, 2) := by decide +kernel
theorem zd_Rules_isClose_38 : decode zc_Rules_isClose 38 = .ok (.iload 6, 2) := by decide +kernel
theorem zd_Rules_isClose_40 : decode zc_Rules_isClose 40 = .ok (.iload 5, 2) := by decide +kernel
theorem zd_Rules_isClose_42 : decode zc_Rules_isClose 42 = .ok (.if_icmp .ge 48, 3) := by decide +kernel
theorem zd_Rules_isClose_90 : decode zc_Rules_isClose 90 = .ok (.iconst 0, 1) := by decide +kernel
theorem zd_Rules_isClose_91 : decode zc_Rules_isClose 91 = .ok (.ireturn, 1) := by decide +kernel
theorem zd_Rules_isClose_45 : decode zc_Rules_isClose 45 = .ok (.aload_n 0, 1) := by decide +kernel
theorem zd_Rules_isClose_46 : decode zc_Rules_isClose 46 = .ok (.getfield 9, 3) := by decide +kernel
theorem zd_Rules_isClose_49 : decode zc_Rules_isClose 49 = .ok (.getfield 52, 3) := by decide +kernel
theorem zd_Rules_isClose_52 : decode zc_Rules_isClose 52 = .ok (.iload 4, 2) := by decide +kernel
theorem zd_Rules_isClose_54 : decode zc_Rules_isClose 54 = .ok (.iload 6, 2) := by decide +kernel
theorem zd_Rules_isClose_56 : decode zc_Rules_isClose 56 = .ok (.iadd, 1) := by decide +kernel
theorem zd_Rules_isClose_57 : decode zc_Rules_isClose 57 = .ok (.iaload, 1) := by decide +kernel
theorem zd_Rules_isClose_58 : decode zc_Rules_isClose 58 = .ok (.istore 7, 2) := by decide +kernel
theorem zd_Rules_isClose_60 : decode zc_Rules_isClose 60 = .ok (.iload 7, 2) := by decide +kernel
theorem zd_Rules_isClose_62 : decode zc_Rules_isClose 62 = .ok (.iconst (-1), 1) := by decide +kernel
theorem zd_Rules_isClose_63 : decode zc_Rules_isClose 63 = .ok (.if_icmp .eq 21, 3) := by decide +kernel
theorem zd_Rules_isClose_66 : decode zc_Rules_isClose 66 = .ok (.aload_n 1, 1) := by decide +kernel
theorem zd_Rules_isClose_67 : decode zc_Rules_isClose 67 = .ok (.iload 7, 2) := by decide +kernel
theorem zd_Rules_isClose_69 : decode zc_Rules_isClose 69 = .ok (.iaload, 1) := by decide +kernel
theorem zd_Rules_isClose_70 : decode zc_Rules_isClose 70 = .ok (.iconst (-1), 1) := by decide +kernel
theorem zd_Rules_isClose_71 : decode zc_Rules_isClose 71 = .ok (.if_icmp .eq 13, 3) := by decide +kernel
theorem zd_Rules_isClose_74 : decode zc_Rules_isClose 74 = .ok (.aload_n 1, 1) := by decide +kernel
theorem zd_Rules_isClose_75 : decode zc_Rules_isClose 75 = .ok (.iload 7, 2) := by decide +kernel
theorem zd_Rules_isClose_77 : decode zc_Rules_isClose 77 = .ok (.iaload, 1) := by decide +kernel
theorem zd_Rules_isClose_78 : decode zc_Rules_isClose 78 = .ok (.iload_n 3, 1) := by decide +kernel
theorem zd_Rules_isClose_79 : decode zc_Rules_isClose 79 = .ok (.if_icmp .eq 5, 3) := by decide +kernel

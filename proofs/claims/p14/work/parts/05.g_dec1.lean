theorem zd_Mo_isPlace_13 : decode zc_Mo_isPlace 13 = .ok (.ifCond .lt 15, 3) := by decide +kernel
theorem zd_Mo_isPlace_16 : decode zc_Mo_isPlace 16 = .ok (.iload_n 2, 1) := by decide +kernel
theorem zd_Mo_isPlace_17 : decode zc_Mo_isPlace 17 = .ok (.aload_n 0, 1) := by decide +kernel
theorem zd_Mo_isPlace_18 : decode zc_Mo_isPlace 18 = .ok (.getfield 48, 3) := by decide +kernel
theorem zd_Mo_isPlace_21 : decode zc_Mo_isPlace 21 = .ok (.if_icmp .ge 7, 3) := by decide +kernel
theorem zd_Mo_isPlace_24 : decode zc_Mo_isPlace 24 = .ok (.iconst 1, 1) := by decide +kernel
theorem zd_Mo_isPlace_25 : decode zc_Mo_isPlace 25 = .ok (.goto 4, 3) := by decide +kernel
theorem zd_Mo_at_18 : decode zc_Mo_at 18 = .ok (.iload_n 1, 1) := by decide +kernel
theorem zd_Mo_at_19 : decode zc_Mo_at 19 = .ok (.aload_n 0, 1) := by decide +kernel
theorem zd_Mo_at_20 : decode zc_Mo_at 20 = .ok (.getfield 48, 3) := by decide +kernel
theorem zd_Mo_at_23 : decode zc_Mo_at 23 = .ok (.imul, 1) := by decide +kernel
theorem zd_Mo_at_24 : decode zc_Mo_at 24 = .ok (.iload_n 3, 1) := by decide +kernel
theorem zd_Mo_at_25 : decode zc_Mo_at 25 = .ok (.iadd, 1) := by decide +kernel
theorem zd_Mo_at_26 : decode zc_Mo_at 26 = .ok (.aload_n 0, 1) := by decide +kernel
theorem zd_Mo_at_27 : decode zc_Mo_at 27 = .ok (.getfield 44, 3) := by decide +kernel
theorem zd_Mo_at_30 : decode zc_Mo_at 30 = .ok (.imul, 1) := by decide +kernel
theorem zd_Mo_at_31 : decode zc_Mo_at 31 = .ok (.iload_n 2, 1) := by decide +kernel
theorem zd_Mo_at_32 : decode zc_Mo_at 32 = .ok (.iadd, 1) := by decide +kernel
theorem zd_Mo_at_33 : decode zc_Mo_at 33 = .ok (.goto 4, 3) := by decide +kernel
theorem zd_Mo_at_36 : decode zc_Mo_at 36 = .ok (.iconst (-1), 1) := by decide +kernel
theorem zd_Mo_at_37 : decode zc_Mo_at 37 = .ok (.ireturn, 1) := by decide +kernel
theorem zd_Mo_at_0 : decode zc_Mo_at 0 = .ok (.aload_n 0, 1) := by decide +kernel
theorem zd_Mo_at_1 : decode zc_Mo_at 1 = .ok (.iload_n 2, 1) := by decide +kernel
theorem zd_Mo_at_2 : decode zc_Mo_at 2 = .ok (.iload_n 3, 1) := by decide +kernel
theorem zd_Mo_at_3 : decode zc_Mo_at 3 = .ok (.invokevirtual 61, 3) := by decide +kernel
theorem zd_Mo_at_6 : decode zc_Mo_at 6 = .ok (.ifCond .eq 30, 3) := by decide +kernel
theorem zd_Mo_at_9 : decode zc_Mo_at 9 = .ok (.iload_n 1, 1) := by decide +kernel
theorem zd_Mo_at_10 : decode zc_Mo_at 10 = .ok (.ifCond .eq 8, 3) := by decide +kernel
theorem zd_Mo_at_13 : decode zc_Mo_at 13 = .ok (.iload_n 1, 1) := by decide +kernel
theorem zd_Mo_at_14 : decode zc_Mo_at 14 = .ok (.iconst 1, 1) := by decide +kernel
theorem zd_Mo_at_15 : decode zc_Mo_at 15 = .ok (.if_icmp .ne 21, 3) := by decide +kernel
theorem zd_Mo_side_75 : decode zc_Mo_side 75 = .ok (.iload_n 2, 1) := by decide +kernel
theorem zd_Mo_side_76 : decode zc_Mo_side 76 = .ok (.iconst 2, 1) := by decide +kernel
theorem zd_Mo_side_77 : decode zc_Mo_side 77 = .ok (.if_icmp .ne 10, 3) := by decide +kernel
theorem zd_Mo_side_87 : decode zc_Mo_side 87 = .ok (.iload_n 2, 1) := by decide +kernel
theorem zd_Mo_side_88 : decode zc_Mo_side 88 = .ok (.iconst 3, 1) := by decide +kernel
theorem zd_Mo_side_89 : decode zc_Mo_side 89 = .ok (.if_icmp .ne 10, 3) := by decide +kernel
theorem zd_Mo_side_99 : decode zc_Mo_side 99 = .ok (.iload 4, 2) := by decide +kernel
theorem zd_Mo_side_92 : decode zc_Mo_side 92 = .ok (.iload 4, 2) := by decide +kernel
theorem zd_Mo_side_94 : decode zc_Mo_side 94 = .ok (.iconst 1, 1) := by decide +kernel
theorem zd_Mo_side_95 : decode zc_Mo_side 95 = .ok (.iadd, 1) := by decide +kernel
theorem zd_Mo_side_96 : decode zc_Mo_side 96 = .ok (.goto 5, 3) := by decide +kernel
theorem zd_Mo_side_80 : decode zc_Mo_side 80 = .ok (.iload 4, 2) := by decide +kernel
theorem zd_Mo_side_82 : decode zc_Mo_side 82 = .ok (.iconst 1, 1) := by decide +kernel
theorem zd_Mo_side_83 : decode zc_Mo_side 83 = .ok (.isub, 1) := by decide +kernel
theorem zd_Mo_side_84 : decode zc_Mo_side 84 = .ok (.goto 17, 3) := by decide +kernel
theorem zd_Mo_side_101 : decode zc_Mo_side 101 = .ok (.invokevirtual 65, 3) := by decide +kernel
theorem zd_Mo_side_104 : decode zc_Mo_side 104 = .ok (.ireturn, 1) := by decide +kernel
theorem zd_Mo_side_0 : decode zc_Mo_side 0 = .ok (.iload_n 1, 1) := by decide +kernel
theorem zd_Mo_side_1 : decode zc_Mo_side 1 = .ok (.aload_n 0, 1) := by decide +kernel
theorem zd_Mo_side_2 : decode zc_Mo_side 2 = .ok (.getfield 44, 3) := by decide +kernel
theorem zd_Mo_side_5 : decode zc_Mo_side 5 = .ok (.irem, 1) := by decide +kernel
theorem zd_Mo_side_6 : decode zc_Mo_side 6 = .ok (.istore_n 3, 1) := by decide +kernel
theorem zd_Mo_side_7 : decode zc_Mo_side 7 = .ok (.iload_n 1, 1) := by decide +kernel
theorem zd_Mo_side_8 : decode zc_Mo_side 8 = .ok (.aload_n 0, 1) := by decide +kernel
theorem zd_Mo_side_9 : decode zc_Mo_side 9 = .ok (.getfield 44, 3) := by decide +kernel
theorem zd_Mo_side_12 : decode zc_Mo_side 12 = .ok (.idiv, 1) := by decide +kernel
theorem zd_Mo_side_13 : decode zc_Mo_side 13 = .ok (.aload_n 0, 1) := by decide +kernel
theorem zd_Mo_side_14 : decode zc_Mo_side 14 = .ok (.getfield 48, 3) := by decide +kernel
theorem zd_Mo_side_17 : decode zc_Mo_side 17 = .ok (.irem, 1) := by decide +kernel
theorem zd_Mo_side_18 : decode zc_Mo_side 18 = .ok (.istore 4, 2) := by decide +kernel
theorem zd_Mo_side_20 : decode zc_Mo_side 20 = .ok (.iload_n 1, 1) := by decide +kernel
theorem zd_Mo_side_21 : decode zc_Mo_side 21 = .ok (.aload_n 0, 1) := by decide +kernel
theorem zd_Mo_side_22 : decode zc_Mo_side 22 = .ok (.getfield 44, 3) := by decide +kernel
theorem zd_Mo_side_25 : decode zc_Mo_side 25 = .ok (.aload_n 0, 1) := by decide +kernel
theorem zd_Mo_side_26 : decode zc_Mo_side 26 = .ok (.getfield 48, 3) := by decide +kernel
theorem zd_Mo_side_29 : decode zc_Mo_side 29 = .ok (.imul, 1) := by decide +kernel
theorem zd_Mo_side_30 : decode zc_Mo_side 30 = .ok (.idiv, 1) := by decide +kernel
theorem zd_Mo_side_31 : decode zc_Mo_side 31 = .ok (.istore 5, 2) := by decide +kernel
theorem zd_Mo_side_33 : decode zc_Mo_side 33 = .ok (.iload_n 2, 1) := by decide +kernel
theorem zd_Mo_side_34 : decode zc_Mo_side 34 = .ok (.iconst 4, 1) := by decide +kernel
theorem zd_Mo_side_35 : decode zc_Mo_side 35 = .ok (.if_icmp .ne 15, 3) := by decide +kernel
theorem zd_Mo_side_50 : decode zc_Mo_side 50 = .ok (.aload_n 0, 1) := by decide +kernel
theorem zd_Mo_side_51 : decode zc_Mo_side 51 = .ok (.iload 5, 2) := by decide +kernel
theorem zd_Mo_side_53 : decode zc_Mo_side 53 = .ok (.iload_n 2, 1) := by decide +kernel
theorem zd_Mo_side_54 : decode zc_Mo_side 54 = .ok (.ifCond .ne 9, 3) := by decide +kernel
theorem zd_Mo_side_63 : decode zc_Mo_side 63 = .ok (.iload_n 2, 1) := by decide +kernel
theorem zd_Mo_side_64 : decode zc_Mo_side 64 = .ok (.iconst 1, 1) := by decide +kernel
theorem zd_Mo_side_65 : decode zc_Mo_side 65 = .ok (.if_icmp .ne 9, 3) := by decide +kernel
theorem zd_Mo_side_74 : decode zc_Mo_side 74 = .ok (.iload_n 3, 1) := by decide +kernel
theorem zd_Mo_side_68 : decode zc_Mo_side 68 = .ok (.iload_n 3, 1) := by decide +kernel
theorem zd_Mo_side_69 : decode zc_Mo_side 69 = .ok (.iconst 1, 1) := by decide +kernel
theorem zd_Mo_side_70 : decode zc_Mo_side 70 = .ok (.iadd, 1) := by decide +kernel
theorem zd_Mo_side_71 : decode zc_Mo_side 71 = .ok (.goto 4, 3) := by decide +kernel
theorem zd_Mo_side_57 : decode zc_Mo_side 57 = .ok (.iload_n 3, 1) := by decide +kernel
theorem zd_Mo_side_58 : decode zc_Mo_side 58 = .ok (.iconst 1, 1) := by decide +kernel
theorem zd_Mo_side_59 : decode zc_Mo_side 59 = .ok (.isub, 1) := by decide +kernel
theorem zd_Mo_side_60 : decode zc_Mo_side 60 = .ok (.goto 15, 3) := by decide +kernel
theorem zd_Mo_side_38 : decode zc_Mo_side 38 = .ok (.aload_n 0, 1) := by decide +kernel
theorem zd_Mo_side_39 : decode zc_Mo_side 39 = .ok (.iconst 1, 1) := by decide +kernel
theorem zd_Mo_side_40 : decode zc_Mo_side 40 = .ok (.iload 5, 2) := by decide +kernel
theorem zd_Mo_side_42 : decode zc_Mo_side 42 = .ok (.isub, 1) := by decide +kernel
theorem zd_Mo_side_43 : decode zc_Mo_side 43 = .ok (.iload_n 3, 1) := by decide +kernel
theorem zd_Mo_side_44 : decode zc_Mo_side 44 = .ok (.iload 4, 2) := by decide +kernel
theorem zd_Mo_side_46 : decode zc_Mo_side 46 = .ok (.invokevirtual 65, 3) := by decide +kernel
theorem zd_Mo_side_49 : decode zc_Mo_side 49 = .ok (.ireturn, 1) := by decide +kernel
theorem zd_Mo_placeOf_0 : decode zc_Mo_placeOf 0 = .ok (.iload_n 1, 1) := by decide +kernel
theorem zd_Mo_placeOf_1 : decode zc_Mo_placeOf 1 = .ok (.aload_n 0, 1) := by decide +kernel
theorem zd_Mo_placeOf_2 : decode zc_Mo_placeOf 2 = .ok (.getfield 44, 3) := by decide +kernel
theorem zd_Mo_placeOf_5 : decode zc_Mo_placeOf 5 = .ok (.aload_n 0, 1) := by decide +kernel
theorem zd_Mo_placeOf_6 : decode zc_Mo_placeOf 6 = .ok (.getfield 48, 3) := by decide +kernel
theorem zd_Mo_placeOf_9 : decode zc_Mo_placeOf 9 = .ok (.imul, 1) := by decide +kernel
theorem zd_Mo_placeOf_10 : decode zc_Mo_placeOf 10 = .ok (.irem, 1) := by decide +kernel
theorem zd_Mo_placeOf_11 : decode zc_Mo_placeOf 11 = .ok (.ireturn, 1) := by decide +kernel
theorem zd_Mo_isOther_14 : decode zc_Mo_isOther 14 = .ok (.iconst 0, 1) := by decide +kernel
theorem zd_Mo_isOther_15 : decode zc_Mo_isOther 15 = .ok (.ireturn, 1) := by decide +kernel
theorem zd_Mo_isOther_0 : decode zc_Mo_isOther 0 = .ok (.iload_n 0, 1) := by decide +kernel
theorem zd_Mo_isOther_1 : decode zc_Mo_isOther 1 = .ok (.iconst (-1), 1) := by decide +kernel
theorem zd_Mo_isOther_2 : decode zc_Mo_isOther 2 = .ok (.if_icmp .eq 12, 3) := by decide +kernel
theorem zd_Mo_isOther_5 : decode zc_Mo_isOther 5 = .ok (.iload_n 0, 1) := by decide +kernel
theorem zd_Mo_isOther_6 : decode zc_Mo_isOther 6 = .ok (.iload_n 1, 1) := by decide +kernel
theorem zd_Mo_isOther_7 : decode zc_Mo_isOther 7 = .ok (.if_icmp .eq 7, 3) := by decide +kernel
theorem zd_Mo_isOther_10 : decode zc_Mo_isOther 10 = .ok (.iconst 1, 1) := by decide +kernel
theorem zd_Mo_isOther_11 : decode zc_Mo_isOther 11 = .ok (.goto 4, 3) := by decide +kernel
theorem zd_Mo_isBarred_22 : decode zc_Mo_isBarred 22 = .ok (.iconst 1, 1) := by decide +kernel
theorem zd_Mo_isBarred_23 : decode zc_Mo_isBarred 23 = .ok (.goto 4, 3) := by decide +kernel
theorem zd_Mo_isBarred_27 : decode zc_Mo_isBarred 27 = .ok (.istore_n 3, 1) := by decide +kernel
theorem zd_Mo_isBarred_28 : decode zc_Mo_isBarred 28 = .ok (.iconst 0, 1) := by decide +kernel
theorem zd_Mo_isBarred_29 : decode zc_Mo_isBarred 29 = .ok (.istore 4, 2) := by decide +kernel
theorem zd_Mo_isBarred_31 : decode zc_Mo_isBarred 31 = .ok (.iload 4, 2) := by decide +kernel
theorem zd_Mo_isBarred_33 : decode zc_Mo_isBarred 33 = .ok (.iconst 4, 1) := by decide +kernel
theorem zd_Mo_isBarred_34 : decode zc_Mo_isBarred 34 = .ok (.if_icmp .ge 55, 3) := by decide +kernel
theorem zd_Mo_isBarred_37 : decode zc_Mo_isBarred 37 = .ok (.aload_n 0, 1) := by decide +kernel
theorem zd_Mo_isBarred_38 : decode zc_Mo_isBarred 38 = .ok (.getfield 54, 3) := by decide +kernel
theorem zd_Mo_isBarred_41 : decode zc_Mo_isBarred 41 = .ok (.ifCond .eq 48, 3) := by decide +kernel
theorem zd_Mo_isBarred_44 : decode zc_Mo_isBarred 44 = .ok (.aload_n 0, 1) := by decide +kernel
theorem zd_Mo_isBarred_45 : decode zc_Mo_isBarred 45 = .ok (.iload_n 1, 1) := by decide +kernel
theorem zd_Mo_isBarred_46 : decode zc_Mo_isBarred 46 = .ok (.iload 4, 2) := by decide +kernel
theorem zd_Mo_isBarred_48 : decode zc_Mo_isBarred 48 = .ok (.invokevirtual 72, 3) := by decide +kernel
theorem zd_Mo_isBarred_51 : decode zc_Mo_isBarred 51 = .ok (.istore 5, 2) := by decide +kernel
theorem zd_Mo_isBarred_53 : decode zc_Mo_isBarred 53 = .ok (.iload_n 3, 1) := by decide +kernel
theorem zd_Mo_isBarred_54 : decode zc_Mo_isBarred 54 = .ok (.ifCond .ne 23, 3) := by decide +kernel
theorem zd_Mo_isBarred_57 : decode zc_Mo_isBarred 57 = .ok (.iload 5, 2) := by decide +kernel
theorem zd_Mo_isBarred_59 : decode zc_Mo_isBarred 59 = .ok (.iconst (-1), 1) := by decide +kernel
theorem zd_Mo_isBarred_60 : decode zc_Mo_isBarred 60 = .ok (.if_icmp .eq 21, 3) := by decide +kernel
theorem zd_Mo_isBarred_63 : decode zc_Mo_isBarred 63 = .ok (.aload_n 0, 1) := by decide +kernel
theorem zd_Mo_isBarred_64 : decode zc_Mo_isBarred 64 = .ok (.getfield 13, 3) := by decide +kernel
theorem zd_Mo_isBarred_67 : decode zc_Mo_isBarred 67 = .ok (.iload 5, 2) := by decide +kernel
theorem zd_Mo_isBarred_69 : decode zc_Mo_isBarred 69 = .ok (.iaload, 1) := by decide +kernel
theorem zd_Mo_isBarred_70 : decode zc_Mo_isBarred 70 = .ok (.iload_n 2, 1) := by decide +kernel
theorem zd_Mo_isBarred_71 : decode zc_Mo_isBarred 71 = .ok (.invokestatic 69, 3) := by decide +kernel
theorem zd_Mo_isBarred_74 : decode zc_Mo_isBarred 74 = .ok (.ifCond .eq 7, 3) := by decide +kernel
theorem zd_Mo_isBarred_77 : decode zc_Mo_isBarred 77 = .ok (.iconst 1, 1) := by decide +kernel
theorem zd_Mo_isBarred_78 : decode zc_Mo_isBarred 78 = .ok (.goto 4, 3) := by decide +kernel
theorem zd_Mo_isBarred_81 : decode zc_Mo_isBarred 81 = .ok (.iconst 0, 1) := by decide +kernel
theorem zd_Mo_isBarred_82 : decode zc_Mo_isBarred 82 = .ok (.istore_n 3, 1) := by decide +kernel
theorem zd_Mo_isBarred_83 : decode zc_Mo_isBarred 83 = .ok (.iinc 4 1, 3) := by decide +kernel
theorem zd_Mo_isBarred_86 : decode zc_Mo_isBarred 86 = .ok (.goto (-55), 3) := by decide +kernel
theorem zd_Mo_isBarred_89 : decode zc_Mo_isBarred 89 = .ok (.iload_n 3, 1) := by decide +kernel
theorem zd_Mo_isBarred_90 : decode zc_Mo_isBarred 90 = .ok (.ireturn, 1) := by decide +kernel
theorem zd_Mo_isBarred_0 : decode zc_Mo_isBarred 0 = .ok (.aload_n 0, 1) := by decide +kernel
theorem zd_Mo_isBarred_1 : decode zc_Mo_isBarred 1 = .ok (.getfield 7, 3) := by decide +kernel
theorem zd_Mo_isBarred_4 : decode zc_Mo_isBarred 4 = .ok (.iload_n 1, 1) := by decide +kernel
theorem zd_Mo_isBarred_5 : decode zc_Mo_isBarred 5 = .ok (.baload, 1) := by decide +kernel
theorem zd_Mo_isBarred_6 : decode zc_Mo_isBarred 6 = .ok (.ifCond .ne 16, 3) := by decide +kernel
theorem zd_Mo_isBarred_9 : decode zc_Mo_isBarred 9 = .ok (.aload_n 0, 1) := by decide +kernel
theorem zd_Mo_isBarred_10 : decode zc_Mo_isBarred 10 = .ok (.getfield 13, 3) := by decide +kernel
theorem zd_Mo_isBarred_13 : decode zc_Mo_isBarred 13 = .ok (.iload_n 1, 1) := by decide +kernel
theorem zd_Mo_isBarred_14 : decode zc_Mo_isBarred 14 = .ok (.iaload, 1) := by decide +kernel
theorem zd_Mo_isBarred_15 : decode zc_Mo_isBarred 15 = .ok (.iload_n 2, 1) := by decide +kernel
theorem zd_Mo_isBarred_16 : decode zc_Mo_isBarred 16 = .ok (.invokestatic 69, 3) := by decide +kernel
theorem zd_Mo_isBarred_19 : decode zc_Mo_isBarred 19 = .ok (.ifCond .eq 7, 3) := by decide +kernel
theorem zd_Mo_isBarred_26 : decode zc_Mo_isBarred 26 = .ok (.iconst 0, 1) := by decide +kernel
theorem zd_Mo_isTaken_14 : decode zc_Mo_isTaken 14 = .ok (.iload 4, 2) := by decide +kernel
theorem zd_Mo_isTaken_16 : decode zc_Mo_isTaken 16 = .ok (.iconst 4, 1) := by decide +kernel
theorem zd_Mo_isTaken_17 : decode zc_Mo_isTaken 17 = .ok (.if_icmp .ge 55, 3) := by decide +kernel
theorem zd_Mo_isTaken_20 : decode zc_Mo_isTaken 20 = .ok (.aload_n 0, 1) := by decide +kernel
theorem zd_Mo_isTaken_21 : decode zc_Mo_isTaken 21 = .ok (.getfield 54, 3) := by decide +kernel
theorem zd_Mo_isTaken_24 : decode zc_Mo_isTaken 24 = .ok (.ifCond .eq 48, 3) := by decide +kernel
theorem zd_Mo_isTaken_27 : decode zc_Mo_isTaken 27 = .ok (.aload_n 0, 1) := by decide +kernel
theorem zd_Mo_isTaken_28 : decode zc_Mo_isTaken 28 = .ok (.iload_n 1, 1) := by decide +kernel
theorem zd_Mo_isTaken_29 : decode zc_Mo_isTaken 29 = .ok (.iload 4, 2) := by decide +kernel
theorem zd_Mo_isTaken_31 : decode zc_Mo_isTaken 31 = .ok (.invokevirtual 72, 3) := by decide +kernel
theorem zd_Mo_isTaken_34 : decode zc_Mo_isTaken 34 = .ok (.istore 5, 2) := by decide +kernel
theorem zd_Mo_isTaken_36 : decode zc_Mo_isTaken 36 = .ok (.iload_n 3, 1) := by decide +kernel
theorem zd_Mo_isTaken_37 : decode zc_Mo_isTaken 37 = .ok (.ifCond .ne 23, 3) := by decide +kernel
theorem zd_Mo_isTaken_40 : decode zc_Mo_isTaken 40 = .ok (.iload 5, 2) := by decide +kernel
theorem zd_Mo_isTaken_42 : decode zc_Mo_isTaken 42 = .ok (.iconst (-1), 1) := by decide +kernel
theorem zd_Mo_isTaken_43 : decode zc_Mo_isTaken 43 = .ok (.if_icmp .eq 21, 3) := by decide +kernel
theorem zd_Mo_isTaken_46 : decode zc_Mo_isTaken 46 = .ok (.aload_n 0, 1) := by decide +kernel
theorem zd_Mo_isTaken_47 : decode zc_Mo_isTaken 47 = .ok (.getfield 17, 3) := by decide +kernel
theorem zd_Mo_isTaken_50 : decode zc_Mo_isTaken 50 = .ok (.iload 5, 2) := by decide +kernel
theorem zd_Mo_isTaken_52 : decode zc_Mo_isTaken 52 = .ok (.iaload, 1) := by decide +kernel
theorem zd_Mo_isTaken_53 : decode zc_Mo_isTaken 53 = .ok (.iload_n 2, 1) := by decide +kernel
theorem zd_Mo_isTaken_54 : decode zc_Mo_isTaken 54 = .ok (.invokestatic 69, 3) := by decide +kernel
theorem zd_Mo_isTaken_57 : decode zc_Mo_isTaken 57 = .ok (.ifCond .eq 7, 3) := by decide +kernel
theorem zd_Mo_isTaken_60 : decode zc_Mo_isTaken 60 = .ok (.iconst 1, 1) := by decide +kernel
theorem zd_Mo_isTaken_61 : decode zc_Mo_isTaken 61 = .ok (.goto 4, 3) := by decide +kernel
theorem zd_Mo_isTaken_64 : decode zc_Mo_isTaken 64 = .ok (.iconst 0, 1) := by decide +kernel
theorem zd_Mo_isTaken_65 : decode zc_Mo_isTaken 65 = .ok (.istore_n 3, 1) := by decide +kernel
theorem zd_Mo_isTaken_66 : decode zc_Mo_isTaken 66 = .ok (.iinc 4 1, 3) := by decide +kernel
theorem zd_Mo_isTaken_69 : decode zc_Mo_isTaken 69 = .ok (.goto (-55), 3) := by decide +kernel
theorem zd_Mo_isTaken_72 : decode zc_Mo_isTaken 72 = .ok (.iload_n 3, 1) := by decide +kernel
theorem zd_Mo_isTaken_73 : decode zc_Mo_isTaken 73 = .ok (.ireturn, 1) := by decide +kernel
theorem zd_Mo_isTaken_0 : decode zc_Mo_isTaken 0 = .ok (.aload_n 0, 1) := by decide +kernel
theorem zd_Mo_isTaken_1 : decode zc_Mo_isTaken 1 = .ok (.getfield 17, 3) := by decide +kernel
theorem zd_Mo_isTaken_4 : decode zc_Mo_isTaken 4 = .ok (.iload_n 1, 1) := by decide +kernel
theorem zd_Mo_isTaken_5 : decode zc_Mo_isTaken 5 = .ok (.iaload, 1) := by decide +kernel
theorem zd_Mo_isTaken_6 : decode zc_Mo_isTaken 6 = .ok (.iload_n 2, 1) := by decide +kernel
theorem zd_Mo_isTaken_7 : decode zc_Mo_isTaken 7 = .ok (.invokestatic 69, 3) := by decide +kernel
theorem zd_Mo_isTaken_10 : decode zc_Mo_isTaken 10 = .ok (.istore_n 3, 1) := by decide +kernel
theorem zd_Mo_isTaken_11 : decode zc_Mo_isTaken 11 = .ok (.iconst 0, 1) := by decide +kernel
theorem zd_Mo_isTaken_12 : decode zc_Mo_isTaken 12 = .ok (.istore 4, 2) := by decide +kernel
theorem zd_Mo_toll_22 : decode zc_Mo_toll 22 = .ok (.aload_n 0, 1) := by decide +kernel
theorem zd_Mo_toll_23 : decode zc_Mo_toll 23 = .ok (.iload_n 1, 1) := by decide +kernel
theorem zd_Mo_toll_24 : decode zc_Mo_toll 24 = .ok (.iload_n 2, 1) := by decide +kernel
theorem zd_Mo_toll_25 : decode zc_Mo_toll 25 = .ok (.invokevirtual 80, 3) := by decide +kernel
theorem zd_Mo_toll_28 : decode zc_Mo_toll 28 = .ok (.ifCond .ne 5, 3) := by decide +kernel
theorem zd_Mo_toll_33 : decode zc_Mo_toll 33 = .ok (.iload_n 3, 1) := by decide +kernel
theorem zd_Mo_toll_34 : decode zc_Mo_toll 34 = .ok (.ifCond .eq 8, 3) := by decide +kernel
theorem zd_Mo_toll_42 : decode zc_Mo_toll 42 = .ok (.aload_n 0, 1) := by decide +kernel
theorem zd_Mo_toll_43 : decode zc_Mo_toll 43 = .ok (.getfield 13, 3) := by decide +kernel
theorem zd_Mo_toll_46 : decode zc_Mo_toll 46 = .ok (.iload_n 1, 1) := by decide +kernel
theorem zd_Mo_toll_47 : decode zc_Mo_toll 47 = .ok (.iaload, 1) := by decide +kernel
theorem zd_Mo_toll_48 : decode zc_Mo_toll 48 = .ok (.iload_n 2, 1) := by decide +kernel
theorem zd_Mo_toll_49 : decode zc_Mo_toll 49 = .ok (.if_icmp .ne 7, 3) := by decide +kernel
theorem zd_Mo_toll_56 : decode zc_Mo_toll 56 = .ok (.ldc 79, 2) := by decide +kernel
theorem zd_Mo_toll_52 : decode zc_Mo_toll 52 = .ok (.iconst 0, 1) := by decide +kernel
theorem zd_Mo_toll_53 : decode zc_Mo_toll 53 = .ok (.goto 5, 3) := by decide +kernel
theorem zd_Mo_toll_37 : decode zc_Mo_toll 37 = .ok (.bipush 10, 2) := by decide +kernel
theorem zd_Mo_toll_39 : decode zc_Mo_toll 39 = .ok (.goto 19, 3) := by decide +kernel
theorem zd_Mo_toll_31 : decode zc_Mo_toll 31 = .ok (.iconst 0, 1) := by decide +kernel
theorem zd_Mo_toll_32 : decode zc_Mo_toll 32 = .ok (.ireturn, 1) := by decide +kernel
theorem zd_Mo_toll_58 : decode zc_Mo_toll 58 = .ok (.ireturn, 1) := by decide +kernel
theorem zd_Mo_toll_0 : decode zc_Mo_toll 0 = .ok (.aload_n 0, 1) := by decide +kernel
theorem zd_Mo_toll_1 : decode zc_Mo_toll 1 = .ok (.getfield 13, 3) := by decide +kernel
theorem zd_Mo_toll_4 : decode zc_Mo_toll 4 = .ok (.iload_n 1, 1) := by decide +kernel
theorem zd_Mo_toll_5 : decode zc_Mo_toll 5 = .ok (.iaload, 1) := by decide +kernel
theorem zd_Mo_toll_6 : decode zc_Mo_toll 6 = .ok (.iload_n 2, 1) := by decide +kernel
theorem zd_Mo_toll_7 : decode zc_Mo_toll 7 = .ok (.if_icmp .eq 15, 3) := by decide +kernel
theorem zd_Mo_toll_10 : decode zc_Mo_toll 10 = .ok (.aload_n 0, 1) := by decide +kernel
theorem zd_Mo_toll_11 : decode zc_Mo_toll 11 = .ok (.iload_n 1, 1) := by decide +kernel
theorem zd_Mo_toll_12 : decode zc_Mo_toll 12 = .ok (.iload_n 2, 1) := by decide +kernel
theorem zd_Mo_toll_13 : decode zc_Mo_toll 13 = .ok (.invokevirtual 76, 3) := by decide +kernel
theorem zd_Mo_toll_16 : decode zc_Mo_toll 16 = .ok (.ifCond .eq 6, 3) := by decide +kernel
theorem zd_Mo_toll_19 : decode zc_Mo_toll 19 = .ok (.ldc 79, 2) := by decide +kernel
theorem zd_Mo_toll_21 : decode zc_Mo_toll 21 = .ok (.ireturn, 1) := by decide +kernel
theorem zd_Mo_block_36 : decode zc_Mo_block 36 = .ok (.putfield 58, 3) := by decide +kernel
theorem zd_Mo_block_39 : decode zc_Mo_block 39 = .ok (.aload_n 0, 1) := by decide +kernel
theorem zd_Mo_block_40 : decode zc_Mo_block 40 = .ok (.getfield 58, 3) := by decide +kernel
theorem zd_Mo_block_43 : decode zc_Mo_block 43 = .ok (.ifCond .le 5, 3) := by decide +kernel
theorem zd_Mo_block_48 : decode zc_Mo_block 48 = .ok (.aload_n 0, 1) := by decide +kernel
theorem zd_Mo_block_49 : decode zc_Mo_block 49 = .ok (.getfield 7, 3) := by decide +kernel
theorem zd_Mo_block_52 : decode zc_Mo_block 52 = .ok (.iload 4, 2) := by decide +kernel
theorem zd_Mo_block_54 : decode zc_Mo_block 54 = .ok (.aload_n 0, 1) := by decide +kernel
theorem zd_Mo_block_55 : decode zc_Mo_block 55 = .ok (.getfield 7, 3) := by decide +kernel
theorem zd_Mo_block_58 : decode zc_Mo_block 58 = .ok (.iload 4, 2) := by decide +kernel
theorem zd_Mo_block_60 : decode zc_Mo_block 60 = .ok (.baload, 1) := by decide +kernel
theorem zd_Mo_block_61 : decode zc_Mo_block 61 = .ok (.ifCond .ne 7, 3) := by decide +kernel
theorem zd_Mo_block_68 : decode zc_Mo_block 68 = .ok (.iconst 0, 1) := by decide +kernel
theorem zd_Mo_block_64 : decode zc_Mo_block 64 = .ok (.iconst 1, 1) := by decide +kernel
theorem zd_Mo_block_65 : decode zc_Mo_block 65 = .ok (.goto 4, 3) := by decide +kernel
theorem zd_Mo_block_46 : decode zc_Mo_block 46 = .ok (.iconst 0, 1) := by decide +kernel
theorem zd_Mo_block_47 : decode zc_Mo_block 47 = .ok (.ireturn, 1) := by decide +kernel
theorem zd_Mo_block_69 : decode zc_Mo_block 69 = .ok (.bastore, 1) := by decide +kernel
theorem zd_Mo_block_70 : decode zc_Mo_block 70 = .ok (.aload_n 0, 1) := by decide +kernel
theorem zd_Mo_block_71 : decode zc_Mo_block 71 = .ok (.getfield 7, 3) := by decide +kernel
theorem zd_Mo_block_74 : decode zc_Mo_block 74 = .ok (.iload 4, 2) := by decide +kernel
theorem zd_Mo_block_76 : decode zc_Mo_block 76 = .ok (.baload, 1) := by decide +kernel
theorem zd_Mo_block_77 : decode zc_Mo_block 77 = .ok (.ireturn, 1) := by decide +kernel
theorem zd_Mo_block_0 : decode zc_Mo_block 0 = .ok (.aload_n 0, 1) := by decide +kernel
theorem zd_Mo_block_1 : decode zc_Mo_block 1 = .ok (.iload_n 1, 1) := by decide +kernel
theorem zd_Mo_block_2 : decode zc_Mo_block 2 = .ok (.iload_n 2, 1) := by decide +kernel
theorem zd_Mo_block_3 : decode zc_Mo_block 3 = .ok (.iload_n 3, 1) := by decide +kernel
theorem zd_Mo_block_4 : decode zc_Mo_block 4 = .ok (.invokevirtual 65, 3) := by decide +kernel
theorem zd_Mo_block_7 : decode zc_Mo_block 7 = .ok (.istore 4, 2) := by decide +kernel
theorem zd_Mo_block_9 : decode zc_Mo_block 9 = .ok (.aload_n 0, 1) := by decide +kernel
theorem zd_Mo_block_10 : decode zc_Mo_block 10 = .ok (.iload 4, 2) := by decide +kernel
theorem zd_Mo_block_12 : decode zc_Mo_block 12 = .ok (.iconst (-1), 1) := by decide +kernel
theorem zd_Mo_block_13 : decode zc_Mo_block 13 = .ok (.if_icmp .ne 7, 3) := by decide +kernel
theorem zd_Mo_block_20 : decode zc_Mo_block 20 = .ok (.aload_n 0, 1) := by decide +kernel
theorem zd_Mo_block_21 : decode zc_Mo_block 21 = .ok (.getfield 13, 3) := by decide +kernel
theorem zd_Mo_block_24 : decode zc_Mo_block 24 = .ok (.iload 4, 2) := by decide +kernel
theorem zd_Mo_block_26 : decode zc_Mo_block 26 = .ok (.iaload, 1) := by decide +kernel
theorem zd_Mo_block_27 : decode zc_Mo_block 27 = .ok (.iconst (-1), 1) := by decide +kernel
theorem zd_Mo_block_28 : decode zc_Mo_block 28 = .ok (.if_icmp .eq 7, 3) := by decide +kernel
theorem zd_Mo_block_35 : decode zc_Mo_block 35 = .ok (.iconst 0, 1) := by decide +kernel
theorem zd_Mo_block_31 : decode zc_Mo_block 31 = .ok (.iconst 2, 1) := by decide +kernel
theorem zd_Mo_block_32 : decode zc_Mo_block 32 = .ok (.goto 4, 3) := by decide +kernel
theorem zd_Mo_block_16 : decode zc_Mo_block 16 = .ok (.iconst 1, 1) := by decide +kernel
theorem zd_Mo_block_17 : decode zc_Mo_block 17 = .ok (.goto 19, 3) := by decide +kernel
theorem zd_Mo_net_34 : decode zc_Mo_net 34 = .ok (.iconst 1, 1) := by decide +kernel
theorem zd_Mo_net_35 : decode zc_Mo_net 35 = .ok (.goto 48, 3) := by decide +kernel
theorem zd_Mo_net_65 : decode zc_Mo_net 65 = .ok (.iconst 2, 1) := by decide +kernel
theorem zd_Mo_net_66 : decode zc_Mo_net 66 = .ok (.goto 17, 3) := by decide +kernel
theorem zd_Mo_net_83 : decode zc_Mo_net 83 = .ok (.putfield 58, 3) := by decide +kernel
theorem zd_Mo_net_86 : decode zc_Mo_net 86 = .ok (.aload_n 0, 1) := by decide +kernel
theorem zd_Mo_net_87 : decode zc_Mo_net 87 = .ok (.getfield 58, 3) := by decide +kernel
theorem zd_Mo_net_90 : decode zc_Mo_net 90 = .ok (.ifCond .le 5, 3) := by decide +kernel
theorem zd_Mo_net_95 : decode zc_Mo_net 95 = .ok (.aload_n 0, 1) := by decide +kernel
theorem zd_Mo_net_96 : decode zc_Mo_net 96 = .ok (.getfield 35, 3) := by decide +kernel
theorem zd_Mo_net_99 : decode zc_Mo_net 99 = .ok (.aload_n 0, 1) := by decide +kernel
theorem zd_Mo_net_100 : decode zc_Mo_net 100 = .ok (.getfield 83, 3) := by decide +kernel
theorem zd_Mo_net_103 : decode zc_Mo_net 103 = .ok (.iload 7, 2) := by decide +kernel
theorem zd_Mo_net_105 : decode zc_Mo_net 105 = .ok (.iastore, 1) := by decide +kernel
theorem zd_Mo_net_106 : decode zc_Mo_net 106 = .ok (.aload_n 0, 1) := by decide +kernel
theorem zd_Mo_net_107 : decode zc_Mo_net 107 = .ok (.getfield 38, 3) := by decide +kernel
theorem zd_Mo_net_110 : decode zc_Mo_net 110 = .ok (.aload_n 0, 1) := by decide +kernel
theorem zd_Mo_net_111 : decode zc_Mo_net 111 = .ok (.getfield 83, 3) := by decide +kernel
theorem zd_Mo_net_114 : decode zc_Mo_net 114 = .ok (.iload 8, 2) := by decide +kernel
theorem zd_Mo_net_116 : decode zc_Mo_net 116 = .ok (.iastore, 1) := by decide +kernel
theorem zd_Mo_net_117 : decode zc_Mo_net 117 = .ok (.aload_n 0, 1) := by decide +kernel
theorem zd_Mo_net_118 : decode zc_Mo_net 118 = .ok (.getfield 13, 3) := by decide +kernel
theorem zd_Mo_net_121 : decode zc_Mo_net 121 = .ok (.iload 7, 2) := by decide +kernel
theorem zd_Mo_net_123 : decode zc_Mo_net 123 = .ok (.aload_n 0, 1) := by decide +kernel
theorem zd_Mo_net_124 : decode zc_Mo_net 124 = .ok (.getfield 83, 3) := by decide +kernel
theorem zd_Mo_net_127 : decode zc_Mo_net 127 = .ok (.iastore, 1) := by decide +kernel
theorem zd_Mo_net_128 : decode zc_Mo_net 128 = .ok (.aload_n 0, 1) := by decide +kernel
theorem zd_Mo_net_129 : decode zc_Mo_net 129 = .ok (.getfield 13, 3) := by decide +kernel
theorem zd_Mo_net_132 : decode zc_Mo_net 132 = .ok (.iload 8, 2) := by decide +kernel
theorem zd_Mo_net_134 : decode zc_Mo_net 134 = .ok (.aload_n 0, 1) := by decide +kernel
theorem zd_Mo_net_135 : decode zc_Mo_net 135 = .ok (.getfield 83, 3) := by decide +kernel
theorem zd_Mo_net_138 : decode zc_Mo_net 138 = .ok (.iastore, 1) := by decide +kernel
theorem zd_Mo_net_139 : decode zc_Mo_net 139 = .ok (.aload_n 0, 1) := by decide +kernel
theorem zd_Mo_net_140 : decode zc_Mo_net 140 = .ok (.getfield 17, 3) := by decide +kernel
theorem zd_Mo_net_143 : decode zc_Mo_net 143 = .ok (.iload 7, 2) := by decide +kernel
theorem zd_Mo_net_145 : decode zc_Mo_net 145 = .ok (.aload_n 0, 1) := by decide +kernel
theorem zd_Mo_net_146 : decode zc_Mo_net 146 = .ok (.getfield 83, 3) := by decide +kernel
theorem zd_Mo_net_149 : decode zc_Mo_net 149 = .ok (.iastore, 1) := by decide +kernel
theorem zd_Mo_net_150 : decode zc_Mo_net 150 = .ok (.aload_n 0, 1) := by decide +kernel
theorem zd_Mo_net_151 : decode zc_Mo_net 151 = .ok (.getfield 17, 3) := by decide +kernel
theorem zd_Mo_net_154 : decode zc_Mo_net 154 = .ok (.iload 8, 2) := by decide +kernel
theorem zd_Mo_net_156 : decode zc_Mo_net 156 = .ok (.aload_n 0, 1) := by decide +kernel
theorem zd_Mo_net_157 : decode zc_Mo_net 157 = .ok (.getfield 83, 3) := by decide +kernel
theorem zd_Mo_net_160 : decode zc_Mo_net 160 = .ok (.iastore, 1) := by decide +kernel
theorem zd_Mo_net_161 : decode zc_Mo_net 161 = .ok (.aload_n 0, 1) := by decide +kernel
theorem zd_Mo_net_162 : decode zc_Mo_net 162 = .ok (.dup, 1) := by decide +kernel
theorem zd_Mo_net_163 : decode zc_Mo_net 163 = .ok (.getfield 83, 3) := by decide +kernel
theorem zd_Mo_net_166 : decode zc_Mo_net 166 = .ok (.iconst 1, 1) := by decide +kernel
theorem zd_Mo_net_167 : decode zc_Mo_net 167 = .ok (.iadd, 1) := by decide +kernel
theorem zd_Mo_net_168 : decode zc_Mo_net 168 = .ok (.putfield 83, 3) := by decide +kernel
theorem zd_Mo_net_171 : decode zc_Mo_net 171 = .ok (.aload_n 0, 1) := by decide +kernel
theorem zd_Mo_net_172 : decode zc_Mo_net 172 = .ok (.getfield 83, 3) := by decide +kernel
theorem zd_Mo_net_175 : decode zc_Mo_net 175 = .ok (.iconst 1, 1) := by decide +kernel
theorem zd_Mo_net_176 : decode zc_Mo_net 176 = .ok (.isub, 1) := by decide +kernel
theorem zd_Mo_net_177 : decode zc_Mo_net 177 = .ok (.ireturn, 1) := by decide +kernel
theorem zd_Mo_net_93 : decode zc_Mo_net 93 = .ok (.iconst 0, 1) := by decide +kernel
theorem zd_Mo_net_94 : decode zc_Mo_net 94 = .ok (.ireturn, 1) := by decide +kernel
theorem zd_Mo_net_0 : decode zc_Mo_net 0 = .ok (.aload_n 0, 1) := by decide +kernel
theorem zd_Mo_net_1 : decode zc_Mo_net 1 = .ok (.iload_n 1, 1) := by decide +kernel
theorem zd_Mo_net_2 : decode zc_Mo_net 2 = .ok (.iload_n 2, 1) := by decide +kernel
theorem zd_Mo_net_3 : decode zc_Mo_net 3 = .ok (.iload_n 3, 1) := by decide +kernel
theorem zd_Mo_net_4 : decode zc_Mo_net 4 = .ok (.invokevirtual 65, 3) := by decide +kernel
theorem zd_Mo_net_7 : decode zc_Mo_net 7 = .ok (.istore 7, 2) := by decide +kernel
theorem zd_Mo_net_9 : decode zc_Mo_net 9 = .ok (.aload_n 0, 1) := by decide +kernel
theorem zd_Mo_net_10 : decode zc_Mo_net 10 = .ok (.iload 4, 2) := by decide +kernel
theorem zd_Mo_net_12 : decode zc_Mo_net 12 = .ok (.iload 5, 2) := by decide +kernel
theorem zd_Mo_net_14 : decode zc_Mo_net 14 = .ok (.iload 6, 2) := by decide +kernel
theorem zd_Mo_net_16 : decode zc_Mo_net 16 = .ok (.invokevirtual 65, 3) := by decide +kernel
theorem zd_Mo_net_19 : decode zc_Mo_net 19 = .ok (.istore 8, 2) := by decide +kernel
theorem zd_Mo_net_21 : decode zc_Mo_net 21 = .ok (.aload_n 0, 1) := by decide +kernel
theorem zd_Mo_net_22 : decode zc_Mo_net 22 = .ok (.iload 7, 2) := by decide +kernel
theorem zd_Mo_net_24 : decode zc_Mo_net 24 = .ok (.iconst (-1), 1) := by decide +kernel
theorem zd_Mo_net_25 : decode zc_Mo_net 25 = .ok (.if_icmp .eq 9, 3) := by decide +kernel
theorem zd_Mo_net_28 : decode zc_Mo_net 28 = .ok (.iload 8, 2) := by decide +kernel
theorem zd_Mo_net_30 : decode zc_Mo_net 30 = .ok (.iconst (-1), 1) := by decide +kernel
theorem zd_Mo_net_31 : decode zc_Mo_net 31 = .ok (.if_icmp .ne 7, 3) := by decide +kernel
theorem zd_Mo_net_38 : decode zc_Mo_net 38 = .ok (.iload 7, 2) := by decide +kernel
theorem zd_Mo_net_40 : decode zc_Mo_net 40 = .ok (.iload 8, 2) := by decide +kernel
theorem zd_Mo_net_42 : decode zc_Mo_net 42 = .ok (.if_icmp .eq 23, 3) := by decide +kernel
theorem zd_Mo_net_45 : decode zc_Mo_net 45 = .ok (.aload_n 0, 1) := by decide +kernel
theorem zd_Mo_net_46 : decode zc_Mo_net 46 = .ok (.iload 7, 2) := by decide +kernel
theorem zd_Mo_net_48 : decode zc_Mo_net 48 = .ok (.iconst (-1), 1) := by decide +kernel
theorem zd_Mo_net_49 : decode zc_Mo_net 49 = .ok (.invokevirtual 76, 3) := by decide +kernel
theorem zd_Mo_net_52 : decode zc_Mo_net 52 = .ok (.ifCond .ne 13, 3) := by decide +kernel
theorem zd_Mo_net_55 : decode zc_Mo_net 55 = .ok (.aload_n 0, 1) := by decide +kernel
theorem zd_Mo_net_56 : decode zc_Mo_net 56 = .ok (.iload 8, 2) := by decide +kernel
theorem zd_Mo_net_58 : decode zc_Mo_net 58 = .ok (.iconst (-1), 1) := by decide +kernel
theorem zd_Mo_net_59 : decode zc_Mo_net 59 = .ok (.invokevirtual 76, 3) := by decide +kernel
theorem zd_Mo_net_62 : decode zc_Mo_net 62 = .ok (.ifCond .eq 7, 3) := by decide +kernel
theorem zd_Mo_net_69 : decode zc_Mo_net 69 = .ok (.aload_n 0, 1) := by decide +kernel
theorem zd_Mo_net_70 : decode zc_Mo_net 70 = .ok (.getfield 83, 3) := by decide +kernel
theorem zd_Mo_net_73 : decode zc_Mo_net 73 = .ok (.bipush 6, 2) := by decide +kernel
theorem zd_Mo_net_75 : decode zc_Mo_net 75 = .ok (.if_icmp .ne 7, 3) := by decide +kernel
theorem zd_Mo_net_82 : decode zc_Mo_net 82 = .ok (.iconst 0, 1) := by decide +kernel
theorem zd_Mo_net_78 : decode zc_Mo_net 78 = .ok (.iconst 3, 1) := by decide +kernel
theorem zd_Mo_net_79 : decode zc_Mo_net 79 = .ok (.goto 4, 3) := by decide +kernel
theorem zd_Mo_isNet_16 : decode zc_Mo_isNet 16 = .ok (.iconst 0, 1) := by decide +kernel
theorem zd_Mo_isNet_17 : decode zc_Mo_isNet 17 = .ok (.ireturn, 1) := by decide +kernel
theorem zd_Mo_isNet_0 : decode zc_Mo_isNet 0 = .ok (.iload_n 1, 1) := by decide +kernel
theorem zd_Mo_isNet_1 : decode zc_Mo_isNet 1 = .ok (.ifCond .lt 15, 3) := by decide +kernel
theorem zd_Mo_isNet_4 : decode zc_Mo_isNet 4 = .ok (.iload_n 1, 1) := by decide +kernel
theorem zd_Mo_isNet_5 : decode zc_Mo_isNet 5 = .ok (.aload_n 0, 1) := by decide +kernel
theorem zd_Mo_isNet_6 : decode zc_Mo_isNet 6 = .ok (.getfield 83, 3) := by decide +kernel
theorem zd_Mo_isNet_9 : decode zc_Mo_isNet 9 = .ok (.if_icmp .ge 7, 3) := by decide +kernel
theorem zd_Mo_isNet_12 : decode zc_Mo_isNet 12 = .ok (.iconst 1, 1) := by decide +kernel
theorem zd_Mo_isNet_13 : decode zc_Mo_isNet 13 = .ok (.goto 4, 3) := by decide +kernel
theorem zd_Mo_clear_2 : decode zc_Mo_clear 2 = .ok (.iload_n 2, 1) := by decide +kernel
theorem zd_Mo_clear_3 : decode zc_Mo_clear 3 = .ok (.aload_n 0, 1) := by decide +kernel
theorem zd_Mo_clear_4 : decode zc_Mo_clear 4 = .ok (.invokevirtual 86, 3) := by decide +kernel
theorem zd_Mo_clear_7 : decode zc_Mo_clear 7 = .ok (.if_icmp .ge 30, 3) := by decide +kernel
theorem zd_Mo_clear_37 : decode zc_Mo_clear 37 = .ok (.iconst 0, 1) := by decide +kernel
theorem zd_Mo_clear_38 : decode zc_Mo_clear 38 = .ok (.istore_n 2, 1) := by decide +kernel
theorem zd_Mo_clear_10 : decode zc_Mo_clear 10 = .ok (.aload_n 0, 1) := by decide +kernel
theorem zd_Mo_clear_11 : decode zc_Mo_clear 11 = .ok (.getfield 17, 3) := by decide +kernel
theorem zd_Mo_clear_14 : decode zc_Mo_clear 14 = .ok (.iload_n 2, 1) := by decide +kernel
theorem zd_Mo_clear_15 : decode zc_Mo_clear 15 = .ok (.iaload, 1) := by decide +kernel
theorem zd_Mo_clear_16 : decode zc_Mo_clear 16 = .ok (.iload_n 1, 1) := by decide +kernel
theorem zd_Mo_clear_17 : decode zc_Mo_clear 17 = .ok (.if_icmp .ne 14, 3) := by decide +kernel
theorem zd_Mo_clear_20 : decode zc_Mo_clear 20 = .ok (.aload_n 0, 1) := by decide +kernel

theorem zd_Mo_push_14 : decode zc_Mo_push 14 = .ok (.putfield 58, 3) := by decide +kernel
theorem zd_Mo_push_17 : decode zc_Mo_push 17 = .ok (.aload_n 0, 1) := by decide +kernel
theorem zd_Mo_push_18 : decode zc_Mo_push 18 = .ok (.getfield 58, 3) := by decide +kernel
theorem zd_Mo_push_21 : decode zc_Mo_push 21 = .ok (.ifCond .ne 12, 3) := by decide +kernel
theorem zd_Mo_push_33 : decode zc_Mo_push 33 = .ok (.iconst 0, 1) := by decide +kernel
theorem zd_Mo_push_24 : decode zc_Mo_push 24 = .ok (.aload_n 0, 1) := by decide +kernel
theorem zd_Mo_push_25 : decode zc_Mo_push 25 = .ok (.iload_n 1, 1) := by decide +kernel
theorem zd_Mo_push_26 : decode zc_Mo_push 26 = .ok (.iconst 1, 1) := by decide +kernel
theorem zd_Mo_push_27 : decode zc_Mo_push 27 = .ok (.invokevirtual 126, 3) := by decide +kernel
theorem zd_Mo_push_30 : decode zc_Mo_push 30 = .ok (.goto 4, 3) := by decide +kernel
theorem zd_Mo_push_34 : decode zc_Mo_push 34 = .ok (.ireturn, 1) := by decide +kernel
theorem zd_Mo_push_0 : decode zc_Mo_push 0 = .ok (.aload_n 0, 1) := by decide +kernel
theorem zd_Mo_push_1 : decode zc_Mo_push 1 = .ok (.aload_n 0, 1) := by decide +kernel
theorem zd_Mo_push_2 : decode zc_Mo_push 2 = .ok (.iload_n 1, 1) := by decide +kernel
theorem zd_Mo_push_3 : decode zc_Mo_push 3 = .ok (.invokevirtual 122, 3) := by decide +kernel
theorem zd_Mo_push_6 : decode zc_Mo_push 6 = .ok (.ifCond .eq 7, 3) := by decide +kernel
theorem zd_Mo_push_13 : decode zc_Mo_push 13 = .ok (.iconst 1, 1) := by decide +kernel
theorem zd_Mo_push_9 : decode zc_Mo_push 9 = .ok (.iconst 0, 1) := by decide +kernel
theorem zd_Mo_push_10 : decode zc_Mo_push 10 = .ok (.goto 4, 3) := by decide +kernel
theorem zd_Mo_rip_14 : decode zc_Mo_rip 14 = .ok (.putfield 58, 3) := by decide +kernel
theorem zd_Mo_rip_17 : decode zc_Mo_rip 17 = .ok (.aload_n 0, 1) := by decide +kernel
theorem zd_Mo_rip_18 : decode zc_Mo_rip 18 = .ok (.getfield 58, 3) := by decide +kernel
theorem zd_Mo_rip_21 : decode zc_Mo_rip 21 = .ok (.ifCond .ne 8, 3) := by decide +kernel
theorem zd_Mo_rip_24 : decode zc_Mo_rip 24 = .ok (.aload_n 0, 1) := by decide +kernel
theorem zd_Mo_rip_25 : decode zc_Mo_rip 25 = .ok (.iload_n 1, 1) := by decide +kernel
theorem zd_Mo_rip_26 : decode zc_Mo_rip 26 = .ok (.invokevirtual 108, 3) := by decide +kernel
theorem zd_Mo_rip_29 : decode zc_Mo_rip 29 = .ok (.return_, 1) := by decide +kernel
theorem zd_Mo_rip_0 : decode zc_Mo_rip 0 = .ok (.aload_n 0, 1) := by decide +kernel
theorem zd_Mo_rip_1 : decode zc_Mo_rip 1 = .ok (.aload_n 0, 1) := by decide +kernel
theorem zd_Mo_rip_2 : decode zc_Mo_rip 2 = .ok (.iload_n 1, 1) := by decide +kernel
theorem zd_Mo_rip_3 : decode zc_Mo_rip 3 = .ok (.invokevirtual 122, 3) := by decide +kernel
theorem zd_Mo_rip_6 : decode zc_Mo_rip 6 = .ok (.ifCond .eq 7, 3) := by decide +kernel
theorem zd_Mo_rip_13 : decode zc_Mo_rip 13 = .ok (.iconst 1, 1) := by decide +kernel
theorem zd_Mo_rip_9 : decode zc_Mo_rip 9 = .ok (.iconst 0, 1) := by decide +kernel
theorem zd_Mo_rip_10 : decode zc_Mo_rip 10 = .ok (.goto 4, 3) := by decide +kernel
theorem zd_Mo_apart_14 : decode zc_Mo_apart 14 = .ok (.ireturn, 1) := by decide +kernel
theorem zd_Mo_apart_0 : decode zc_Mo_apart 0 = .ok (.iload_n 0, 1) := by decide +kernel
theorem zd_Mo_apart_1 : decode zc_Mo_apart 1 = .ok (.iload_n 1, 1) := by decide +kernel
theorem zd_Mo_apart_2 : decode zc_Mo_apart 2 = .ok (.if_icmp .ge 9, 3) := by decide +kernel
theorem zd_Mo_apart_11 : decode zc_Mo_apart 11 = .ok (.iload_n 0, 1) := by decide +kernel
theorem zd_Mo_apart_12 : decode zc_Mo_apart 12 = .ok (.iload_n 1, 1) := by decide +kernel
theorem zd_Mo_apart_13 : decode zc_Mo_apart 13 = .ok (.isub, 1) := by decide +kernel
theorem zd_Mo_apart_5 : decode zc_Mo_apart 5 = .ok (.iload_n 1, 1) := by decide +kernel
theorem zd_Mo_apart_6 : decode zc_Mo_apart 6 = .ok (.iload_n 0, 1) := by decide +kernel
theorem zd_Mo_apart_7 : decode zc_Mo_apart 7 = .ok (.isub, 1) := by decide +kernel
theorem zd_Mo_apart_8 : decode zc_Mo_apart 8 = .ok (.goto 6, 3) := by decide +kernel
theorem zd_Mo_spread_0 : decode zc_Mo_spread 0 = .ok (.aload_n 0, 1) := by decide +kernel
theorem zd_Mo_spread_1 : decode zc_Mo_spread 1 = .ok (.getfield 35, 3) := by decide +kernel
theorem zd_Mo_spread_4 : decode zc_Mo_spread 4 = .ok (.iload_n 1, 1) := by decide +kernel
theorem zd_Mo_spread_5 : decode zc_Mo_spread 5 = .ok (.iaload, 1) := by decide +kernel
theorem zd_Mo_spread_6 : decode zc_Mo_spread 6 = .ok (.istore_n 2, 1) := by decide +kernel
theorem zd_Mo_spread_7 : decode zc_Mo_spread 7 = .ok (.aload_n 0, 1) := by decide +kernel
theorem zd_Mo_spread_8 : decode zc_Mo_spread 8 = .ok (.getfield 38, 3) := by decide +kernel
theorem zd_Mo_spread_11 : decode zc_Mo_spread 11 = .ok (.iload_n 1, 1) := by decide +kernel
theorem zd_Mo_spread_12 : decode zc_Mo_spread 12 = .ok (.iaload, 1) := by decide +kernel
theorem zd_Mo_spread_13 : decode zc_Mo_spread 13 = .ok (.istore_n 3, 1) := by decide +kernel
theorem zd_Mo_spread_14 : decode zc_Mo_spread 14 = .ok (.iload_n 2, 1) := by decide +kernel
theorem zd_Mo_spread_15 : decode zc_Mo_spread 15 = .ok (.aload_n 0, 1) := by decide +kernel
theorem zd_Mo_spread_16 : decode zc_Mo_spread 16 = .ok (.getfield 44, 3) := by decide +kernel
theorem zd_Mo_spread_19 : decode zc_Mo_spread 19 = .ok (.aload_n 0, 1) := by decide +kernel
theorem zd_Mo_spread_20 : decode zc_Mo_spread 20 = .ok (.getfield 48, 3) := by decide +kernel
theorem zd_Mo_spread_23 : decode zc_Mo_spread 23 = .ok (.imul, 1) := by decide +kernel
theorem zd_Mo_spread_24 : decode zc_Mo_spread 24 = .ok (.idiv, 1) := by decide +kernel
theorem zd_Mo_spread_25 : decode zc_Mo_spread 25 = .ok (.iload_n 3, 1) := by decide +kernel
theorem zd_Mo_spread_26 : decode zc_Mo_spread 26 = .ok (.aload_n 0, 1) := by decide +kernel
theorem zd_Mo_spread_27 : decode zc_Mo_spread 27 = .ok (.getfield 44, 3) := by decide +kernel
theorem zd_Mo_spread_30 : decode zc_Mo_spread 30 = .ok (.aload_n 0, 1) := by decide +kernel
theorem zd_Mo_spread_31 : decode zc_Mo_spread 31 = .ok (.getfield 48, 3) := by decide +kernel
theorem zd_Mo_spread_34 : decode zc_Mo_spread 34 = .ok (.imul, 1) := by decide +kernel
theorem zd_Mo_spread_35 : decode zc_Mo_spread 35 = .ok (.idiv, 1) := by decide +kernel
theorem zd_Mo_spread_36 : decode zc_Mo_spread 36 = .ok (.invokestatic 130, 3) := by decide +kernel
theorem zd_Mo_spread_39 : decode zc_Mo_spread 39 = .ok (.iload_n 2, 1) := by decide +kernel
theorem zd_Mo_spread_40 : decode zc_Mo_spread 40 = .ok (.aload_n 0, 1) := by decide +kernel
theorem zd_Mo_spread_41 : decode zc_Mo_spread 41 = .ok (.getfield 44, 3) := by decide +kernel
theorem zd_Mo_spread_44 : decode zc_Mo_spread 44 = .ok (.irem, 1) := by decide +kernel
theorem zd_Mo_spread_45 : decode zc_Mo_spread 45 = .ok (.iload_n 3, 1) := by decide +kernel
theorem zd_Mo_spread_46 : decode zc_Mo_spread 46 = .ok (.aload_n 0, 1) := by decide +kernel
theorem zd_Mo_spread_47 : decode zc_Mo_spread 47 = .ok (.getfield 44, 3) := by decide +kernel
theorem zd_Mo_spread_50 : decode zc_Mo_spread 50 = .ok (.irem, 1) := by decide +kernel
theorem zd_Mo_spread_51 : decode zc_Mo_spread 51 = .ok (.invokestatic 130, 3) := by decide +kernel
theorem zd_Mo_spread_54 : decode zc_Mo_spread 54 = .ok (.iadd, 1) := by decide +kernel
theorem zd_Mo_spread_55 : decode zc_Mo_spread 55 = .ok (.iload_n 2, 1) := by decide +kernel
theorem zd_Mo_spread_56 : decode zc_Mo_spread 56 = .ok (.aload_n 0, 1) := by decide +kernel
theorem zd_Mo_spread_57 : decode zc_Mo_spread 57 = .ok (.getfield 44, 3) := by decide +kernel
theorem zd_Mo_spread_60 : decode zc_Mo_spread 60 = .ok (.idiv, 1) := by decide +kernel
theorem zd_Mo_spread_61 : decode zc_Mo_spread 61 = .ok (.aload_n 0, 1) := by decide +kernel
theorem zd_Mo_spread_62 : decode zc_Mo_spread 62 = .ok (.getfield 48, 3) := by decide +kernel
theorem zd_Mo_spread_65 : decode zc_Mo_spread 65 = .ok (.irem, 1) := by decide +kernel
theorem zd_Mo_spread_66 : decode zc_Mo_spread 66 = .ok (.iload_n 3, 1) := by decide +kernel
theorem zd_Mo_spread_67 : decode zc_Mo_spread 67 = .ok (.aload_n 0, 1) := by decide +kernel
theorem zd_Mo_spread_68 : decode zc_Mo_spread 68 = .ok (.getfield 44, 3) := by decide +kernel
theorem zd_Mo_spread_71 : decode zc_Mo_spread 71 = .ok (.idiv, 1) := by decide +kernel
theorem zd_Mo_spread_72 : decode zc_Mo_spread 72 = .ok (.aload_n 0, 1) := by decide +kernel
theorem zd_Mo_spread_73 : decode zc_Mo_spread 73 = .ok (.getfield 48, 3) := by decide +kernel
theorem zd_Mo_spread_76 : decode zc_Mo_spread 76 = .ok (.irem, 1) := by decide +kernel
theorem zd_Mo_spread_77 : decode zc_Mo_spread 77 = .ok (.invokestatic 130, 3) := by decide +kernel
theorem zd_Mo_spread_80 : decode zc_Mo_spread 80 = .ok (.iadd, 1) := by decide +kernel
theorem zd_Mo_spread_81 : decode zc_Mo_spread 81 = .ok (.ireturn, 1) := by decide +kernel
theorem zd_Mo_standAll_14 : decode zc_Mo_standAll 14 = .ok (.iload_n 2, 1) := by decide +kernel
theorem zd_Mo_standAll_15 : decode zc_Mo_standAll 15 = .ok (.ifCond .eq 90, 3) := by decide +kernel
theorem zd_Mo_standAll_105 : decode zc_Mo_standAll 105 = .ok (.return_, 1) := by decide +kernel
theorem zd_Mo_standAll_18 : decode zc_Mo_standAll 18 = .ok (.iconst (-1), 1) := by decide +kernel
theorem zd_Mo_standAll_19 : decode zc_Mo_standAll 19 = .ok (.istore_n 3, 1) := by decide +kernel
theorem zd_Mo_standAll_20 : decode zc_Mo_standAll 20 = .ok (.iconst 0, 1) := by decide +kernel
theorem zd_Mo_standAll_21 : decode zc_Mo_standAll 21 = .ok (.istore 4, 2) := by decide +kernel
theorem zd_Mo_standAll_23 : decode zc_Mo_standAll 23 = .ok (.iload 4, 2) := by decide +kernel
theorem zd_Mo_standAll_25 : decode zc_Mo_standAll 25 = .ok (.aload_n 0, 1) := by decide +kernel
theorem zd_Mo_standAll_26 : decode zc_Mo_standAll 26 = .ok (.getfield 83, 3) := by decide +kernel
theorem zd_Mo_standAll_29 : decode zc_Mo_standAll 29 = .ok (.if_icmp .ge 45, 3) := by decide +kernel
theorem zd_Mo_standAll_74 : decode zc_Mo_standAll 74 = .ok (.aload_n 0, 1) := by decide +kernel
theorem zd_Mo_standAll_75 : decode zc_Mo_standAll 75 = .ok (.getfield 41, 3) := by decide +kernel
theorem zd_Mo_standAll_78 : decode zc_Mo_standAll 78 = .ok (.aload_n 0, 1) := by decide +kernel
theorem zd_Mo_standAll_79 : decode zc_Mo_standAll 79 = .ok (.getfield 133, 3) := by decide +kernel
theorem zd_Mo_standAll_82 : decode zc_Mo_standAll 82 = .ok (.iload_n 3, 1) := by decide +kernel
theorem zd_Mo_standAll_83 : decode zc_Mo_standAll 83 = .ok (.iastore, 1) := by decide +kernel
theorem zd_Mo_standAll_84 : decode zc_Mo_standAll 84 = .ok (.aload_n 0, 1) := by decide +kernel
theorem zd_Mo_standAll_85 : decode zc_Mo_standAll 85 = .ok (.dup, 1) := by decide +kernel
theorem zd_Mo_standAll_86 : decode zc_Mo_standAll 86 = .ok (.getfield 133, 3) := by decide +kernel
theorem zd_Mo_standAll_89 : decode zc_Mo_standAll 89 = .ok (.iconst 1, 1) := by decide +kernel
theorem zd_Mo_standAll_90 : decode zc_Mo_standAll 90 = .ok (.iadd, 1) := by decide +kernel
theorem zd_Mo_standAll_91 : decode zc_Mo_standAll 91 = .ok (.putfield 133, 3) := by decide +kernel
theorem zd_Mo_standAll_94 : decode zc_Mo_standAll 94 = .ok (.iload_n 2, 1) := by decide +kernel
theorem zd_Mo_standAll_95 : decode zc_Mo_standAll 95 = .ok (.iconst 1, 1) := by decide +kernel
theorem zd_Mo_standAll_96 : decode zc_Mo_standAll 96 = .ok (.iload_n 3, 1) := by decide +kernel
theorem zd_Mo_standAll_97 : decode zc_Mo_standAll 97 = .ok (.ishl, 1) := by decide +kernel
theorem zd_Mo_standAll_98 : decode zc_Mo_standAll 98 = .ok (.iconst (-1), 1) := by decide +kernel
theorem zd_Mo_standAll_99 : decode zc_Mo_standAll 99 = .ok (.ixor, 1) := by decide +kernel
theorem zd_Mo_standAll_100 : decode zc_Mo_standAll 100 = .ok (.iand, 1) := by decide +kernel
theorem zd_Mo_standAll_101 : decode zc_Mo_standAll 101 = .ok (.istore_n 2, 1) := by decide +kernel
theorem zd_Mo_standAll_102 : decode zc_Mo_standAll 102 = .ok (.goto (-88), 3) := by decide +kernel
theorem zd_Mo_standAll_32 : decode zc_Mo_standAll 32 = .ok (.iload_n 2, 1) := by decide +kernel
theorem zd_Mo_standAll_33 : decode zc_Mo_standAll 33 = .ok (.iload 4, 2) := by decide +kernel
theorem zd_Mo_standAll_35 : decode zc_Mo_standAll 35 = .ok (.ishr, 1) := by decide +kernel
theorem zd_Mo_standAll_36 : decode zc_Mo_standAll 36 = .ok (.iconst 1, 1) := by decide +kernel
theorem zd_Mo_standAll_37 : decode zc_Mo_standAll 37 = .ok (.iand, 1) := by decide +kernel
theorem zd_Mo_standAll_38 : decode zc_Mo_standAll 38 = .ok (.iconst 1, 1) := by decide +kernel
theorem zd_Mo_standAll_39 : decode zc_Mo_standAll 39 = .ok (.if_icmp .ne 29, 3) := by decide +kernel
theorem zd_Mo_standAll_42 : decode zc_Mo_standAll 42 = .ok (.iload_n 3, 1) := by decide +kernel
theorem zd_Mo_standAll_43 : decode zc_Mo_standAll 43 = .ok (.iconst (-1), 1) := by decide +kernel
theorem zd_Mo_standAll_44 : decode zc_Mo_standAll 44 = .ok (.if_icmp .eq 21, 3) := by decide +kernel
theorem zd_Mo_standAll_47 : decode zc_Mo_standAll 47 = .ok (.iload_n 1, 1) := by decide +kernel
theorem zd_Mo_standAll_48 : decode zc_Mo_standAll 48 = .ok (.ifCond .eq 20, 3) := by decide +kernel
theorem zd_Mo_standAll_51 : decode zc_Mo_standAll 51 = .ok (.aload_n 0, 1) := by decide +kernel
theorem zd_Mo_standAll_52 : decode zc_Mo_standAll 52 = .ok (.iload 4, 2) := by decide +kernel
theorem zd_Mo_standAll_54 : decode zc_Mo_standAll 54 = .ok (.invokevirtual 136, 3) := by decide +kernel
theorem zd_Mo_standAll_57 : decode zc_Mo_standAll 57 = .ok (.aload_n 0, 1) := by decide +kernel
theorem zd_Mo_standAll_58 : decode zc_Mo_standAll 58 = .ok (.iload_n 3, 1) := by decide +kernel
theorem zd_Mo_standAll_59 : decode zc_Mo_standAll 59 = .ok (.invokevirtual 136, 3) := by decide +kernel
theorem zd_Mo_standAll_62 : decode zc_Mo_standAll 62 = .ok (.if_icmp .ge 6, 3) := by decide +kernel
theorem zd_Mo_standAll_65 : decode zc_Mo_standAll 65 = .ok (.iload 4, 2) := by decide +kernel
theorem zd_Mo_standAll_67 : decode zc_Mo_standAll 67 = .ok (.istore_n 3, 1) := by decide +kernel
theorem zd_Mo_standAll_68 : decode zc_Mo_standAll 68 = .ok (.iinc 4 1, 3) := by decide +kernel
theorem zd_Mo_standAll_71 : decode zc_Mo_standAll 71 = .ok (.goto (-48), 3) := by decide +kernel
theorem zd_Mo_standAll_0 : decode zc_Mo_standAll 0 = .ok (.iconst 1, 1) := by decide +kernel
theorem zd_Mo_standAll_1 : decode zc_Mo_standAll 1 = .ok (.aload_n 0, 1) := by decide +kernel
theorem zd_Mo_standAll_2 : decode zc_Mo_standAll 2 = .ok (.getfield 83, 3) := by decide +kernel
theorem zd_Mo_standAll_5 : decode zc_Mo_standAll 5 = .ok (.ishl, 1) := by decide +kernel
theorem zd_Mo_standAll_6 : decode zc_Mo_standAll 6 = .ok (.iconst 1, 1) := by decide +kernel
theorem zd_Mo_standAll_7 : decode zc_Mo_standAll 7 = .ok (.isub, 1) := by decide +kernel
theorem zd_Mo_standAll_8 : decode zc_Mo_standAll 8 = .ok (.istore_n 2, 1) := by decide +kernel
theorem zd_Mo_standAll_9 : decode zc_Mo_standAll 9 = .ok (.aload_n 0, 1) := by decide +kernel
theorem zd_Mo_standAll_10 : decode zc_Mo_standAll 10 = .ok (.iconst 0, 1) := by decide +kernel
theorem zd_Mo_standAll_11 : decode zc_Mo_standAll 11 = .ok (.putfield 133, 3) := by decide +kernel
theorem zd_Mo_stands_4 : decode zc_Mo_stands 4 = .ok (.iload_n 3, 1) := by decide +kernel
theorem zd_Mo_stands_5 : decode zc_Mo_stands 5 = .ok (.aload_n 0, 1) := by decide +kernel
theorem zd_Mo_stands_6 : decode zc_Mo_stands 6 = .ok (.getfield 133, 3) := by decide +kernel
theorem zd_Mo_stands_9 : decode zc_Mo_stands 9 = .ok (.if_icmp .ge 29, 3) := by decide +kernel
theorem zd_Mo_stands_38 : decode zc_Mo_stands 38 = .ok (.iload_n 2, 1) := by decide +kernel
theorem zd_Mo_stands_39 : decode zc_Mo_stands 39 = .ok (.ireturn, 1) := by decide +kernel
theorem zd_Mo_stands_12 : decode zc_Mo_stands 12 = .ok (.iload_n 2, 1) := by decide +kernel
theorem zd_Mo_stands_13 : decode zc_Mo_stands 13 = .ok (.ifCond .ne 13, 3) := by decide +kernel
theorem zd_Mo_stands_16 : decode zc_Mo_stands 16 = .ok (.aload_n 0, 1) := by decide +kernel
theorem zd_Mo_stands_17 : decode zc_Mo_stands 17 = .ok (.getfield 41, 3) := by decide +kernel
theorem zd_Mo_stands_20 : decode zc_Mo_stands 20 = .ok (.iload_n 3, 1) := by decide +kernel
theorem zd_Mo_stands_21 : decode zc_Mo_stands 21 = .ok (.iaload, 1) := by decide +kernel
theorem zd_Mo_stands_22 : decode zc_Mo_stands 22 = .ok (.iload_n 1, 1) := by decide +kernel
theorem zd_Mo_stands_23 : decode zc_Mo_stands 23 = .ok (.if_icmp .ne 7, 3) := by decide +kernel
theorem zd_Mo_stands_30 : decode zc_Mo_stands 30 = .ok (.iconst 0, 1) := by decide +kernel
theorem zd_Mo_stands_26 : decode zc_Mo_stands 26 = .ok (.iconst 1, 1) := by decide +kernel
theorem zd_Mo_stands_27 : decode zc_Mo_stands 27 = .ok (.goto 4, 3) := by decide +kernel
theorem zd_Mo_stands_31 : decode zc_Mo_stands 31 = .ok (.istore_n 2, 1) := by decide +kernel
theorem zd_Mo_stands_32 : decode zc_Mo_stands 32 = .ok (.iinc 3 1, 3) := by decide +kernel
theorem zd_Mo_stands_35 : decode zc_Mo_stands 35 = .ok (.goto (-31), 3) := by decide +kernel
theorem zd_Mo_stands_0 : decode zc_Mo_stands 0 = .ok (.iconst 0, 1) := by decide +kernel
theorem zd_Mo_stands_1 : decode zc_Mo_stands 1 = .ok (.istore_n 2, 1) := by decide +kernel
theorem zd_Mo_stands_2 : decode zc_Mo_stands 2 = .ok (.iconst 0, 1) := by decide +kernel
theorem zd_Mo_stands_3 : decode zc_Mo_stands 3 = .ok (.istore_n 3, 1) := by decide +kernel
theorem zd_Mo_all_11 : decode zc_Mo_all 11 = .ok (.iconst 1, 1) := by decide +kernel
theorem zd_Mo_all_12 : decode zc_Mo_all 12 = .ok (.goto 4, 3) := by decide +kernel
theorem zd_Mo_all_16 : decode zc_Mo_all 16 = .ok (.putfield 58, 3) := by decide +kernel
theorem zd_Mo_all_19 : decode zc_Mo_all 19 = .ok (.aload_n 0, 1) := by decide +kernel
theorem zd_Mo_all_20 : decode zc_Mo_all 20 = .ok (.getfield 58, 3) := by decide +kernel
theorem zd_Mo_all_23 : decode zc_Mo_all 23 = .ok (.ifCond .le 5, 3) := by decide +kernel
theorem zd_Mo_all_28 : decode zc_Mo_all 28 = .ok (.iconst 0, 1) := by decide +kernel
theorem zd_Mo_all_29 : decode zc_Mo_all 29 = .ok (.istore_n 3, 1) := by decide +kernel
theorem zd_Mo_all_26 : decode zc_Mo_all 26 = .ok (.iconst 0, 1) := by decide +kernel
theorem zd_Mo_all_27 : decode zc_Mo_all 27 = .ok (.ireturn, 1) := by decide +kernel
theorem zd_Mo_all_30 : decode zc_Mo_all 30 = .ok (.iload_n 3, 1) := by decide +kernel
theorem zd_Mo_all_31 : decode zc_Mo_all 31 = .ok (.aload_n 0, 1) := by decide +kernel
theorem zd_Mo_all_32 : decode zc_Mo_all 32 = .ok (.getfield 83, 3) := by decide +kernel
theorem zd_Mo_all_35 : decode zc_Mo_all 35 = .ok (.if_icmp .ge 14, 3) := by decide +kernel
theorem zd_Mo_all_49 : decode zc_Mo_all 49 = .ok (.aload_n 0, 1) := by decide +kernel
theorem zd_Mo_all_50 : decode zc_Mo_all 50 = .ok (.iload_n 1, 1) := by decide +kernel
theorem zd_Mo_all_51 : decode zc_Mo_all 51 = .ok (.invokevirtual 139, 3) := by decide +kernel
theorem zd_Mo_all_54 : decode zc_Mo_all 54 = .ok (.iconst 0, 1) := by decide +kernel
theorem zd_Mo_all_55 : decode zc_Mo_all 55 = .ok (.istore_n 3, 1) := by decide +kernel
theorem zd_Mo_all_38 : decode zc_Mo_all 38 = .ok (.aload_n 0, 1) := by decide +kernel
theorem zd_Mo_all_39 : decode zc_Mo_all 39 = .ok (.iload_n 3, 1) := by decide +kernel
theorem zd_Mo_all_40 : decode zc_Mo_all 40 = .ok (.invokevirtual 108, 3) := by decide +kernel
theorem zd_Mo_all_43 : decode zc_Mo_all 43 = .ok (.iinc 3 1, 3) := by decide +kernel
theorem zd_Mo_all_46 : decode zc_Mo_all 46 = .ok (.goto (-16), 3) := by decide +kernel
theorem zd_Mo_all_56 : decode zc_Mo_all 56 = .ok (.aload_n 0, 1) := by decide +kernel
theorem zd_Mo_all_57 : decode zc_Mo_all 57 = .ok (.getfield 133, 3) := by decide +kernel
theorem zd_Mo_all_60 : decode zc_Mo_all 60 = .ok (.ifCond .le 162, 3) := by decide +kernel
theorem zd_Mo_all_222 : decode zc_Mo_all 222 = .ok (.iconst 1, 1) := by decide +kernel
theorem zd_Mo_all_223 : decode zc_Mo_all 223 = .ok (.istore 4, 2) := by decide +kernel
theorem zd_Mo_all_63 : decode zc_Mo_all 63 = .ok (.aload_n 0, 1) := by decide +kernel
theorem zd_Mo_all_64 : decode zc_Mo_all 64 = .ok (.getfield 41, 3) := by decide +kernel
theorem zd_Mo_all_67 : decode zc_Mo_all 67 = .ok (.iconst 0, 1) := by decide +kernel
theorem zd_Mo_all_68 : decode zc_Mo_all 68 = .ok (.iaload, 1) := by decide +kernel
theorem zd_Mo_all_69 : decode zc_Mo_all 69 = .ok (.istore 4, 2) := by decide +kernel
theorem zd_Mo_all_71 : decode zc_Mo_all 71 = .ok (.aload_n 0, 1) := by decide +kernel
theorem zd_Mo_all_72 : decode zc_Mo_all 72 = .ok (.dup, 1) := by decide +kernel
theorem zd_Mo_all_73 : decode zc_Mo_all 73 = .ok (.getfield 133, 3) := by decide +kernel
theorem zd_Mo_all_76 : decode zc_Mo_all 76 = .ok (.iconst 1, 1) := by decide +kernel
theorem zd_Mo_all_77 : decode zc_Mo_all 77 = .ok (.isub, 1) := by decide +kernel
theorem zd_Mo_all_78 : decode zc_Mo_all 78 = .ok (.putfield 133, 3) := by decide +kernel
theorem zd_Mo_all_81 : decode zc_Mo_all 81 = .ok (.iconst 0, 1) := by decide +kernel
theorem zd_Mo_all_82 : decode zc_Mo_all 82 = .ok (.istore 5, 2) := by decide +kernel
theorem zd_Mo_all_84 : decode zc_Mo_all 84 = .ok (.iload 5, 2) := by decide +kernel
theorem zd_Mo_all_86 : decode zc_Mo_all 86 = .ok (.aload_n 0, 1) := by decide +kernel
theorem zd_Mo_all_87 : decode zc_Mo_all 87 = .ok (.getfield 133, 3) := by decide +kernel
theorem zd_Mo_all_90 : decode zc_Mo_all 90 = .ok (.if_icmp .ge 25, 3) := by decide +kernel
theorem zd_Mo_all_115 : decode zc_Mo_all 115 = .ok (.aload_n 0, 1) := by decide +kernel
theorem zd_Mo_all_116 : decode zc_Mo_all 116 = .ok (.iload 4, 2) := by decide +kernel
theorem zd_Mo_all_118 : decode zc_Mo_all 118 = .ok (.iconst 0, 1) := by decide +kernel
theorem zd_Mo_all_119 : decode zc_Mo_all 119 = .ok (.invokevirtual 126, 3) := by decide +kernel
theorem zd_Mo_all_122 : decode zc_Mo_all 122 = .ok (.iconst (-1), 1) := by decide +kernel
theorem zd_Mo_all_123 : decode zc_Mo_all 123 = .ok (.if_icmp .ne (-67), 3) := by decide +kernel
theorem zd_Mo_all_126 : decode zc_Mo_all 126 = .ok (.iload_n 3, 1) := by decide +kernel
theorem zd_Mo_all_127 : decode zc_Mo_all 127 = .ok (.iload_n 2, 1) := by decide +kernel
theorem zd_Mo_all_128 : decode zc_Mo_all 128 = .ok (.if_icmp .ne 6, 3) := by decide +kernel
theorem zd_Mo_all_134 : decode zc_Mo_all 134 = .ok (.aload_n 0, 1) := by decide +kernel
theorem zd_Mo_all_135 : decode zc_Mo_all 135 = .ok (.iconst 0, 1) := by decide +kernel
theorem zd_Mo_all_136 : decode zc_Mo_all 136 = .ok (.putfield 112, 3) := by decide +kernel
theorem zd_Mo_all_139 : decode zc_Mo_all 139 = .ok (.aload_n 0, 1) := by decide +kernel
theorem zd_Mo_all_140 : decode zc_Mo_all 140 = .ok (.iload 4, 2) := by decide +kernel
theorem zd_Mo_all_142 : decode zc_Mo_all 142 = .ok (.iconst 1, 1) := by decide +kernel
theorem zd_Mo_all_143 : decode zc_Mo_all 143 = .ok (.invokevirtual 126, 3) := by decide +kernel
theorem zd_Mo_all_146 : decode zc_Mo_all 146 = .ok (.iconst (-1), 1) := by decide +kernel
theorem zd_Mo_all_147 : decode zc_Mo_all 147 = .ok (.if_icmp .ne 6, 3) := by decide +kernel
theorem zd_Mo_all_153 : decode zc_Mo_all 153 = .ok (.iinc 3 1, 3) := by decide +kernel
theorem zd_Mo_all_156 : decode zc_Mo_all 156 = .ok (.iconst 0, 1) := by decide +kernel
theorem zd_Mo_all_157 : decode zc_Mo_all 157 = .ok (.istore 5, 2) := by decide +kernel
theorem zd_Mo_all_150 : decode zc_Mo_all 150 = .ok (.goto (-94), 3) := by decide +kernel
theorem zd_Mo_all_131 : decode zc_Mo_all 131 = .ok (.goto (-75), 3) := by decide +kernel
theorem zd_Mo_all_93 : decode zc_Mo_all 93 = .ok (.aload_n 0, 1) := by decide +kernel
theorem zd_Mo_all_94 : decode zc_Mo_all 94 = .ok (.getfield 41, 3) := by decide +kernel
theorem zd_Mo_all_97 : decode zc_Mo_all 97 = .ok (.iload 5, 2) := by decide +kernel
theorem zd_Mo_all_99 : decode zc_Mo_all 99 = .ok (.aload_n 0, 1) := by decide +kernel
theorem zd_Mo_all_100 : decode zc_Mo_all 100 = .ok (.getfield 41, 3) := by decide +kernel
theorem zd_Mo_all_103 : decode zc_Mo_all 103 = .ok (.iload 5, 2) := by decide +kernel
theorem zd_Mo_all_105 : decode zc_Mo_all 105 = .ok (.iconst 1, 1) := by decide +kernel
theorem zd_Mo_all_106 : decode zc_Mo_all 106 = .ok (.iadd, 1) := by decide +kernel
theorem zd_Mo_all_107 : decode zc_Mo_all 107 = .ok (.iaload, 1) := by decide +kernel
theorem zd_Mo_all_108 : decode zc_Mo_all 108 = .ok (.iastore, 1) := by decide +kernel
theorem zd_Mo_all_109 : decode zc_Mo_all 109 = .ok (.iinc 5 1, 3) := by decide +kernel
theorem zd_Mo_all_112 : decode zc_Mo_all 112 = .ok (.goto (-28), 3) := by decide +kernel
theorem zd_Mo_all_159 : decode zc_Mo_all 159 = .ok (.iload 5, 2) := by decide +kernel
theorem zd_Mo_all_161 : decode zc_Mo_all 161 = .ok (.aload_n 0, 1) := by decide +kernel
theorem zd_Mo_all_162 : decode zc_Mo_all 162 = .ok (.getfield 83, 3) := by decide +kernel
theorem zd_Mo_all_165 : decode zc_Mo_all 165 = .ok (.if_icmp .ge 54, 3) := by decide +kernel
theorem zd_Mo_all_219 : decode zc_Mo_all 219 = .ok (.goto (-163), 3) := by decide +kernel
theorem zd_Mo_all_168 : decode zc_Mo_all 168 = .ok (.aload_n 0, 1) := by decide +kernel
theorem zd_Mo_all_169 : decode zc_Mo_all 169 = .ok (.getfield 112, 3) := by decide +kernel
theorem zd_Mo_all_172 : decode zc_Mo_all 172 = .ok (.iload 5, 2) := by decide +kernel
theorem zd_Mo_all_174 : decode zc_Mo_all 174 = .ok (.ishr, 1) := by decide +kernel
theorem zd_Mo_all_175 : decode zc_Mo_all 175 = .ok (.iconst 1, 1) := by decide +kernel
theorem zd_Mo_all_176 : decode zc_Mo_all 176 = .ok (.iand, 1) := by decide +kernel
theorem zd_Mo_all_177 : decode zc_Mo_all 177 = .ok (.ifCond .eq 36, 3) := by decide +kernel
theorem zd_Mo_all_180 : decode zc_Mo_all 180 = .ok (.aload_n 0, 1) := by decide +kernel
theorem zd_Mo_all_181 : decode zc_Mo_all 181 = .ok (.iload 5, 2) := by decide +kernel
theorem zd_Mo_all_183 : decode zc_Mo_all 183 = .ok (.invokevirtual 143, 3) := by decide +kernel
theorem zd_Mo_all_186 : decode zc_Mo_all 186 = .ok (.ifCond .eq 6, 3) := by decide +kernel
theorem zd_Mo_all_192 : decode zc_Mo_all 192 = .ok (.aload_n 0, 1) := by decide +kernel
theorem zd_Mo_all_193 : decode zc_Mo_all 193 = .ok (.getfield 41, 3) := by decide +kernel
theorem zd_Mo_all_196 : decode zc_Mo_all 196 = .ok (.aload_n 0, 1) := by decide +kernel
theorem zd_Mo_all_197 : decode zc_Mo_all 197 = .ok (.getfield 133, 3) := by decide +kernel
theorem zd_Mo_all_200 : decode zc_Mo_all 200 = .ok (.iload 5, 2) := by decide +kernel
theorem zd_Mo_all_202 : decode zc_Mo_all 202 = .ok (.iastore, 1) := by decide +kernel
theorem zd_Mo_all_203 : decode zc_Mo_all 203 = .ok (.aload_n 0, 1) := by decide +kernel
theorem zd_Mo_all_204 : decode zc_Mo_all 204 = .ok (.dup, 1) := by decide +kernel
theorem zd_Mo_all_205 : decode zc_Mo_all 205 = .ok (.getfield 133, 3) := by decide +kernel
theorem zd_Mo_all_208 : decode zc_Mo_all 208 = .ok (.iconst 1, 1) := by decide +kernel
theorem zd_Mo_all_209 : decode zc_Mo_all 209 = .ok (.iadd, 1) := by decide +kernel
theorem zd_Mo_all_210 : decode zc_Mo_all 210 = .ok (.putfield 133, 3) := by decide +kernel
theorem zd_Mo_all_189 : decode zc_Mo_all 189 = .ok (.goto 24, 3) := by decide +kernel
theorem zd_Mo_all_213 : decode zc_Mo_all 213 = .ok (.iinc 5 1, 3) := by decide +kernel
theorem zd_Mo_all_216 : decode zc_Mo_all 216 = .ok (.goto (-57), 3) := by decide +kernel
theorem zd_Mo_all_225 : decode zc_Mo_all 225 = .ok (.iload 4, 2) := by decide +kernel
theorem zd_Mo_all_227 : decode zc_Mo_all 227 = .ok (.ifCond .eq 50, 3) := by decide +kernel
theorem zd_Mo_all_277 : decode zc_Mo_all 277 = .ok (.aload_n 0, 1) := by decide +kernel
theorem zd_Mo_all_278 : decode zc_Mo_all 278 = .ok (.getfield 83, 3) := by decide +kernel
theorem zd_Mo_all_281 : decode zc_Mo_all 281 = .ok (.aload_n 0, 1) := by decide +kernel
theorem zd_Mo_all_282 : decode zc_Mo_all 282 = .ok (.invokevirtual 149, 3) := by decide +kernel
theorem zd_Mo_all_285 : decode zc_Mo_all 285 = .ok (.isub, 1) := by decide +kernel
theorem zd_Mo_all_286 : decode zc_Mo_all 286 = .ok (.ireturn, 1) := by decide +kernel
theorem zd_Mo_all_230 : decode zc_Mo_all 230 = .ok (.iconst 0, 1) := by decide +kernel
theorem zd_Mo_all_231 : decode zc_Mo_all 231 = .ok (.istore 4, 2) := by decide +kernel
theorem zd_Mo_all_233 : decode zc_Mo_all 233 = .ok (.iconst 0, 1) := by decide +kernel
theorem zd_Mo_all_234 : decode zc_Mo_all 234 = .ok (.istore 5, 2) := by decide +kernel
theorem zd_Mo_all_236 : decode zc_Mo_all 236 = .ok (.iload 5, 2) := by decide +kernel
theorem zd_Mo_all_238 : decode zc_Mo_all 238 = .ok (.aload_n 0, 1) := by decide +kernel
theorem zd_Mo_all_239 : decode zc_Mo_all 239 = .ok (.getfield 83, 3) := by decide +kernel
theorem zd_Mo_all_242 : decode zc_Mo_all 242 = .ok (.if_icmp .ge 32, 3) := by decide +kernel
theorem zd_Mo_all_274 : decode zc_Mo_all 274 = .ok (.goto (-49), 3) := by decide +kernel
theorem zd_Mo_all_245 : decode zc_Mo_all 245 = .ok (.aload_n 0, 1) := by decide +kernel
theorem zd_Mo_all_246 : decode zc_Mo_all 246 = .ok (.iload 5, 2) := by decide +kernel
theorem zd_Mo_all_248 : decode zc_Mo_all 248 = .ok (.invokevirtual 146, 3) := by decide +kernel
theorem zd_Mo_all_251 : decode zc_Mo_all 251 = .ok (.ifCond .ne 17, 3) := by decide +kernel
theorem zd_Mo_all_254 : decode zc_Mo_all 254 = .ok (.aload_n 0, 1) := by decide +kernel
theorem zd_Mo_all_255 : decode zc_Mo_all 255 = .ok (.iload 5, 2) := by decide +kernel
theorem zd_Mo_all_257 : decode zc_Mo_all 257 = .ok (.iconst 0, 1) := by decide +kernel
theorem zd_Mo_all_258 : decode zc_Mo_all 258 = .ok (.invokevirtual 126, 3) := by decide +kernel
theorem zd_Mo_all_261 : decode zc_Mo_all 261 = .ok (.iconst (-1), 1) := by decide +kernel
theorem zd_Mo_all_262 : decode zc_Mo_all 262 = .ok (.if_icmp .eq 6, 3) := by decide +kernel
theorem zd_Mo_all_265 : decode zc_Mo_all 265 = .ok (.iconst 1, 1) := by decide +kernel
theorem zd_Mo_all_266 : decode zc_Mo_all 266 = .ok (.istore 4, 2) := by decide +kernel
theorem zd_Mo_all_268 : decode zc_Mo_all 268 = .ok (.iinc 5 1, 3) := by decide +kernel
theorem zd_Mo_all_271 : decode zc_Mo_all 271 = .ok (.goto (-35), 3) := by decide +kernel
theorem zd_Mo_all_0 : decode zc_Mo_all 0 = .ok (.aload_n 0, 1) := by decide +kernel
theorem zd_Mo_all_1 : decode zc_Mo_all 1 = .ok (.iload_n 2, 1) := by decide +kernel
theorem zd_Mo_all_2 : decode zc_Mo_all 2 = .ok (.ifCond .lt 9, 3) := by decide +kernel
theorem zd_Mo_all_5 : decode zc_Mo_all 5 = .ok (.iload_n 2, 1) := by decide +kernel
theorem zd_Mo_all_6 : decode zc_Mo_all 6 = .ok (.bipush 20, 2) := by decide +kernel
theorem zd_Mo_all_8 : decode zc_Mo_all 8 = .ok (.if_icmp .le 7, 3) := by decide +kernel
theorem zd_Mo_all_15 : decode zc_Mo_all 15 = .ok (.iconst 0, 1) := by decide +kernel
theorem zd_Mo_paint_31 : decode zc_Mo_paint 31 = .ok (.iconst 0, 1) := by decide +kernel
theorem zd_Mo_paint_32 : decode zc_Mo_paint 32 = .ok (.goto 4, 3) := by decide +kernel
theorem zd_Mo_paint_35 : decode zc_Mo_paint 35 = .ok (.iconst 1, 1) := by decide +kernel
theorem zd_Mo_paint_36 : decode zc_Mo_paint 36 = .ok (.putfield 58, 3) := by decide +kernel
theorem zd_Mo_paint_39 : decode zc_Mo_paint 39 = .ok (.aload_n 0, 1) := by decide +kernel
theorem zd_Mo_paint_40 : decode zc_Mo_paint 40 = .ok (.getfield 58, 3) := by decide +kernel
theorem zd_Mo_paint_43 : decode zc_Mo_paint 43 = .ok (.ifCond .ne 12, 3) := by decide +kernel
theorem zd_Mo_paint_46 : decode zc_Mo_paint 46 = .ok (.aload_n 0, 1) := by decide +kernel
theorem zd_Mo_paint_47 : decode zc_Mo_paint 47 = .ok (.getfield 17, 3) := by decide +kernel
theorem zd_Mo_paint_50 : decode zc_Mo_paint 50 = .ok (.iload 5, 2) := by decide +kernel
theorem zd_Mo_paint_52 : decode zc_Mo_paint 52 = .ok (.iload 4, 2) := by decide +kernel
theorem zd_Mo_paint_54 : decode zc_Mo_paint 54 = .ok (.iastore, 1) := by decide +kernel
theorem zd_Mo_paint_55 : decode zc_Mo_paint 55 = .ok (.return_, 1) := by decide +kernel
theorem zd_Mo_paint_0 : decode zc_Mo_paint 0 = .ok (.aload_n 0, 1) := by decide +kernel
theorem zd_Mo_paint_1 : decode zc_Mo_paint 1 = .ok (.iload_n 1, 1) := by decide +kernel
theorem zd_Mo_paint_2 : decode zc_Mo_paint 2 = .ok (.iload_n 2, 1) := by decide +kernel
theorem zd_Mo_paint_3 : decode zc_Mo_paint 3 = .ok (.iload_n 3, 1) := by decide +kernel
theorem zd_Mo_paint_4 : decode zc_Mo_paint 4 = .ok (.invokevirtual 65, 3) := by decide +kernel
theorem zd_Mo_paint_7 : decode zc_Mo_paint 7 = .ok (.istore 5, 2) := by decide +kernel
theorem zd_Mo_paint_9 : decode zc_Mo_paint 9 = .ok (.aload_n 0, 1) := by decide +kernel
theorem zd_Mo_paint_10 : decode zc_Mo_paint 10 = .ok (.iload 5, 2) := by decide +kernel
theorem zd_Mo_paint_12 : decode zc_Mo_paint 12 = .ok (.iconst (-1), 1) := by decide +kernel
theorem zd_Mo_paint_13 : decode zc_Mo_paint 13 = .ok (.if_icmp .eq 22, 3) := by decide +kernel
theorem zd_Mo_paint_16 : decode zc_Mo_paint 16 = .ok (.iload 4, 2) := by decide +kernel
theorem zd_Mo_paint_18 : decode zc_Mo_paint 18 = .ok (.iconst (-1), 1) := by decide +kernel
theorem zd_Mo_paint_19 : decode zc_Mo_paint 19 = .ok (.if_icmp .eq 12, 3) := by decide +kernel
theorem zd_Mo_paint_22 : decode zc_Mo_paint 22 = .ok (.aload_n 0, 1) := by decide +kernel
theorem zd_Mo_paint_23 : decode zc_Mo_paint 23 = .ok (.iload 4, 2) := by decide +kernel
theorem zd_Mo_paint_25 : decode zc_Mo_paint 25 = .ok (.invokevirtual 122, 3) := by decide +kernel
theorem zd_Mo_paint_28 : decode zc_Mo_paint 28 = .ok (.ifCond .eq 7, 3) := by decide +kernel
theorem zd_Mo_stitch_15 : decode zc_Mo_stitch 15 = .ok (.putfield 58, 3) := by decide +kernel
theorem zd_Mo_stitch_18 : decode zc_Mo_stitch 18 = .ok (.aload_n 0, 1) := by decide +kernel
theorem zd_Mo_stitch_19 : decode zc_Mo_stitch 19 = .ok (.getfield 58, 3) := by decide +kernel
theorem zd_Mo_stitch_22 : decode zc_Mo_stitch 22 = .ok (.ifCond .le 5, 3) := by decide +kernel
theorem zd_Mo_stitch_27 : decode zc_Mo_stitch 27 = .ok (.aload_n 0, 1) := by decide +kernel
theorem zd_Mo_stitch_28 : decode zc_Mo_stitch 28 = .ok (.getfield 20, 3) := by decide +kernel
theorem zd_Mo_stitch_31 : decode zc_Mo_stitch 31 = .ok (.iload_n 2, 1) := by decide +kernel
theorem zd_Mo_stitch_32 : decode zc_Mo_stitch 32 = .ok (.aload_n 0, 1) := by decide +kernel
theorem zd_Mo_stitch_33 : decode zc_Mo_stitch 33 = .ok (.getfield 44, 3) := by decide +kernel
theorem zd_Mo_stitch_36 : decode zc_Mo_stitch 36 = .ok (.imul, 1) := by decide +kernel
theorem zd_Mo_stitch_37 : decode zc_Mo_stitch 37 = .ok (.iload_n 1, 1) := by decide +kernel
theorem zd_Mo_stitch_38 : decode zc_Mo_stitch 38 = .ok (.iadd, 1) := by decide +kernel
theorem zd_Mo_stitch_39 : decode zc_Mo_stitch 39 = .ok (.aload_n 0, 1) := by decide +kernel
theorem zd_Mo_stitch_40 : decode zc_Mo_stitch 40 = .ok (.getfield 20, 3) := by decide +kernel
theorem zd_Mo_stitch_43 : decode zc_Mo_stitch 43 = .ok (.iload_n 2, 1) := by decide +kernel
theorem zd_Mo_stitch_44 : decode zc_Mo_stitch 44 = .ok (.aload_n 0, 1) := by decide +kernel
theorem zd_Mo_stitch_45 : decode zc_Mo_stitch 45 = .ok (.getfield 44, 3) := by decide +kernel
theorem zd_Mo_stitch_48 : decode zc_Mo_stitch 48 = .ok (.imul, 1) := by decide +kernel
theorem zd_Mo_stitch_49 : decode zc_Mo_stitch 49 = .ok (.iload_n 1, 1) := by decide +kernel
theorem zd_Mo_stitch_50 : decode zc_Mo_stitch 50 = .ok (.iadd, 1) := by decide +kernel
theorem zd_Mo_stitch_51 : decode zc_Mo_stitch 51 = .ok (.baload, 1) := by decide +kernel
theorem zd_Mo_stitch_52 : decode zc_Mo_stitch 52 = .ok (.ifCond .ne 7, 3) := by decide +kernel
theorem zd_Mo_stitch_59 : decode zc_Mo_stitch 59 = .ok (.iconst 0, 1) := by decide +kernel
theorem zd_Mo_stitch_55 : decode zc_Mo_stitch 55 = .ok (.iconst 1, 1) := by decide +kernel
theorem zd_Mo_stitch_56 : decode zc_Mo_stitch 56 = .ok (.goto 4, 3) := by decide +kernel
theorem zd_Mo_stitch_25 : decode zc_Mo_stitch 25 = .ok (.iconst 0, 1) := by decide +kernel
theorem zd_Mo_stitch_26 : decode zc_Mo_stitch 26 = .ok (.ireturn, 1) := by decide +kernel
theorem zd_Mo_stitch_60 : decode zc_Mo_stitch 60 = .ok (.bastore, 1) := by decide +kernel
theorem zd_Mo_stitch_61 : decode zc_Mo_stitch 61 = .ok (.aload_n 0, 1) := by decide +kernel
theorem zd_Mo_stitch_62 : decode zc_Mo_stitch 62 = .ok (.getfield 20, 3) := by decide +kernel
theorem zd_Mo_stitch_65 : decode zc_Mo_stitch 65 = .ok (.iload_n 2, 1) := by decide +kernel
theorem zd_Mo_stitch_66 : decode zc_Mo_stitch 66 = .ok (.aload_n 0, 1) := by decide +kernel
theorem zd_Mo_stitch_67 : decode zc_Mo_stitch 67 = .ok (.getfield 44, 3) := by decide +kernel

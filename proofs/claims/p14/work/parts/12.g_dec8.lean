theorem zd_Rules_isClose_82 : decode zc_Rules_isClose 82 = .ok (.iconst 1, 1) := by decide +kernel
theorem zd_Rules_isClose_83 : decode zc_Rules_isClose 83 = .ok (.ireturn, 1) := by decide +kernel
theorem zd_Rules_isClose_84 : decode zc_Rules_isClose 84 = .ok (.iinc 6 1, 3) := by decide +kernel
theorem zd_Rules_isClose_87 : decode zc_Rules_isClose 87 = .ok (.goto (-49), 3) := by decide +kernel
theorem zd_Rules_isClose_0 : decode zc_Rules_isClose 0 = .ok (.aload_n 1, 1) := by decide +kernel
theorem zd_Rules_isClose_1 : decode zc_Rules_isClose 1 = .ok (.iload_n 2, 1) := by decide +kernel
theorem zd_Rules_isClose_2 : decode zc_Rules_isClose 2 = .ok (.iaload, 1) := by decide +kernel
theorem zd_Rules_isClose_3 : decode zc_Rules_isClose 3 = .ok (.iconst (-1), 1) := by decide +kernel
theorem zd_Rules_isClose_4 : decode zc_Rules_isClose 4 = .ok (.if_icmp .eq 12, 3) := by decide +kernel
theorem zd_Rules_isClose_7 : decode zc_Rules_isClose 7 = .ok (.aload_n 1, 1) := by decide +kernel
theorem zd_Rules_isClose_8 : decode zc_Rules_isClose 8 = .ok (.iload_n 2, 1) := by decide +kernel
theorem zd_Rules_isClose_9 : decode zc_Rules_isClose 9 = .ok (.iaload, 1) := by decide +kernel
theorem zd_Rules_isClose_10 : decode zc_Rules_isClose 10 = .ok (.iload_n 3, 1) := by decide +kernel
theorem zd_Rules_isClose_11 : decode zc_Rules_isClose 11 = .ok (.if_icmp .eq 5, 3) := by decide +kernel
theorem zd_Rules_isClose_14 : decode zc_Rules_isClose 14 = .ok (.iconst 1, 1) := by decide +kernel
theorem zd_Rules_isClose_15 : decode zc_Rules_isClose 15 = .ok (.ireturn, 1) := by decide +kernel
theorem zd_Shapes_count_4 : decode zc_Shapes_count 4 = .ok (.iload_n 2, 1) := by decide +kernel
theorem zd_Shapes_count_5 : decode zc_Shapes_count 5 = .ok (.aload_n 0, 1) := by decide +kernel
theorem zd_Shapes_count_6 : decode zc_Shapes_count 6 = .ok (.getfield 9, 3) := by decide +kernel
theorem zd_Shapes_count_9 : decode zc_Shapes_count 9 = .ok (.getfield 19, 3) := by decide +kernel
theorem zd_Shapes_count_12 : decode zc_Shapes_count 12 = .ok (.if_icmp .ge 20, 3) := by decide +kernel
theorem zd_Shapes_count_32 : decode zc_Shapes_count 32 = .ok (.iload_n 1, 1) := by decide +kernel
theorem zd_Shapes_count_33 : decode zc_Shapes_count 33 = .ok (.ireturn, 1) := by decide +kernel
theorem zd_Shapes_count_15 : decode zc_Shapes_count 15 = .ok (.aload_n 0, 1) := by decide +kernel
theorem zd_Shapes_count_16 : decode zc_Shapes_count 16 = .ok (.iload_n 2, 1) := by decide +kernel
theorem zd_Shapes_count_17 : decode zc_Shapes_count 17 = .ok (.invokevirtual 25, 3) := by decide +kernel
theorem zd_Shapes_count_20 : decode zc_Shapes_count 20 = .ok (.ifCond .eq 6, 3) := by decide +kernel
theorem zd_Shapes_count_23 : decode zc_Shapes_count 23 = .ok (.iinc 1 1, 3) := by decide +kernel
theorem zd_Shapes_count_26 : decode zc_Shapes_count 26 = .ok (.iinc 2 1, 3) := by decide +kernel
theorem zd_Shapes_count_29 : decode zc_Shapes_count 29 = .ok (.goto (-25), 3) := by decide +kernel
theorem zd_Shapes_count_0 : decode zc_Shapes_count 0 = .ok (.iconst 0, 1) := by decide +kernel
theorem zd_Shapes_count_1 : decode zc_Shapes_count 1 = .ok (.istore_n 1, 1) := by decide +kernel
theorem zd_Shapes_count_2 : decode zc_Shapes_count 2 = .ok (.iconst 0, 1) := by decide +kernel
theorem zd_Shapes_count_3 : decode zc_Shapes_count 3 = .ok (.istore_n 2, 1) := by decide +kernel
theorem zd_Shapes_startOf_4 : decode zc_Shapes_startOf 4 = .ok (.iload_n 3, 1) := by decide +kernel
theorem zd_Shapes_startOf_5 : decode zc_Shapes_startOf 5 = .ok (.aload_n 0, 1) := by decide +kernel
theorem zd_Shapes_startOf_6 : decode zc_Shapes_startOf 6 = .ok (.getfield 9, 3) := by decide +kernel
theorem zd_Shapes_startOf_9 : decode zc_Shapes_startOf 9 = .ok (.getfield 19, 3) := by decide +kernel
theorem zd_Shapes_startOf_12 : decode zc_Shapes_startOf 12 = .ok (.if_icmp .ge 27, 3) := by decide +kernel
theorem zd_Shapes_startOf_39 : decode zc_Shapes_startOf 39 = .ok (.iconst (-1), 1) := by decide +kernel
theorem zd_Shapes_startOf_40 : decode zc_Shapes_startOf 40 = .ok (.ireturn, 1) := by decide +kernel
theorem zd_Shapes_startOf_15 : decode zc_Shapes_startOf 15 = .ok (.aload_n 0, 1) := by decide +kernel
theorem zd_Shapes_startOf_16 : decode zc_Shapes_startOf 16 = .ok (.iload_n 3, 1) := by decide +kernel
theorem zd_Shapes_startOf_17 : decode zc_Shapes_startOf 17 = .ok (.invokevirtual 25, 3) := by decide +kernel
theorem zd_Shapes_startOf_20 : decode zc_Shapes_startOf 20 = .ok (.ifCond .eq 13, 3) := by decide +kernel
theorem zd_Shapes_startOf_23 : decode zc_Shapes_startOf 23 = .ok (.iload_n 2, 1) := by decide +kernel
theorem zd_Shapes_startOf_24 : decode zc_Shapes_startOf 24 = .ok (.iload_n 1, 1) := by decide +kernel
theorem zd_Shapes_startOf_25 : decode zc_Shapes_startOf 25 = .ok (.if_icmp .ne 5, 3) := by decide +kernel
theorem zd_Shapes_startOf_30 : decode zc_Shapes_startOf 30 = .ok (.iinc 2 1, 3) := by decide +kernel
theorem zd_Shapes_startOf_28 : decode zc_Shapes_startOf 28 = .ok (.iload_n 3, 1) := by decide +kernel
theorem zd_Shapes_startOf_29 : decode zc_Shapes_startOf 29 = .ok (.ireturn, 1) := by decide +kernel
theorem zd_Shapes_startOf_33 : decode zc_Shapes_startOf 33 = .ok (.iinc 3 1, 3) := by decide +kernel
theorem zd_Shapes_startOf_36 : decode zc_Shapes_startOf 36 = .ok (.goto (-32), 3) := by decide +kernel
theorem zd_Shapes_startOf_0 : decode zc_Shapes_startOf 0 = .ok (.iconst 0, 1) := by decide +kernel
theorem zd_Shapes_startOf_1 : decode zc_Shapes_startOf 1 = .ok (.istore_n 2, 1) := by decide +kernel
theorem zd_Shapes_startOf_2 : decode zc_Shapes_startOf 2 = .ok (.iconst 0, 1) := by decide +kernel
theorem zd_Shapes_startOf_3 : decode zc_Shapes_startOf 3 = .ok (.istore_n 3, 1) := by decide +kernel
theorem zd_Shapes_tell_0 : decode zc_Shapes_tell 0 = .ok (.iload_n 2, 1) := by decide +kernel
theorem zd_Shapes_tell_1 : decode zc_Shapes_tell 1 = .ok (.tableswitch 66 0 3 #[31, 40, 50, 60], 31) := by decide +kernel
theorem zd_Shapes_tell_32 : decode zc_Shapes_tell 32 = .ok (.aload_n 0, 1) := by decide +kernel
theorem zd_Shapes_tell_33 : decode zc_Shapes_tell 33 = .ok (.getfield 9, 3) := by decide +kernel
theorem zd_Shapes_tell_36 : decode zc_Shapes_tell 36 = .ok (.iload_n 1, 1) := by decide +kernel
theorem zd_Shapes_tell_37 : decode zc_Shapes_tell 37 = .ok (.invokevirtual 29, 3) := by decide +kernel
theorem zd_Shapes_tell_40 : decode zc_Shapes_tell 40 = .ok (.ireturn, 1) := by decide +kernel
theorem zd_Shapes_tell_41 : decode zc_Shapes_tell 41 = .ok (.aload_n 0, 1) := by decide +kernel
theorem zd_Shapes_tell_42 : decode zc_Shapes_tell 42 = .ok (.getfield 9, 3) := by decide +kernel
theorem zd_Shapes_tell_45 : decode zc_Shapes_tell 45 = .ok (.getfield 33, 3) := by decide +kernel
theorem zd_Shapes_tell_48 : decode zc_Shapes_tell 48 = .ok (.iload_n 1, 1) := by decide +kernel
theorem zd_Shapes_tell_49 : decode zc_Shapes_tell 49 = .ok (.iaload, 1) := by decide +kernel
theorem zd_Shapes_tell_50 : decode zc_Shapes_tell 50 = .ok (.ireturn, 1) := by decide +kernel
theorem zd_Shapes_tell_51 : decode zc_Shapes_tell 51 = .ok (.aload_n 0, 1) := by decide +kernel
theorem zd_Shapes_tell_52 : decode zc_Shapes_tell 52 = .ok (.getfield 9, 3) := by decide +kernel
theorem zd_Shapes_tell_55 : decode zc_Shapes_tell 55 = .ok (.getfield 37, 3) := by decide +kernel
theorem zd_Shapes_tell_58 : decode zc_Shapes_tell 58 = .ok (.iload_n 1, 1) := by decide +kernel
theorem zd_Shapes_tell_59 : decode zc_Shapes_tell 59 = .ok (.iaload, 1) := by decide +kernel
theorem zd_Shapes_tell_60 : decode zc_Shapes_tell 60 = .ok (.ireturn, 1) := by decide +kernel
theorem zd_Shapes_tell_61 : decode zc_Shapes_tell 61 = .ok (.aload_n 0, 1) := by decide +kernel
theorem zd_Shapes_tell_62 : decode zc_Shapes_tell 62 = .ok (.iload_n 1, 1) := by decide +kernel
theorem zd_Shapes_tell_63 : decode zc_Shapes_tell 63 = .ok (.invokevirtual 40, 3) := by decide +kernel
theorem zd_Shapes_tell_66 : decode zc_Shapes_tell 66 = .ok (.ireturn, 1) := by decide +kernel
theorem zd_Shapes_tell_67 : decode zc_Shapes_tell 67 = .ok (.aload_n 0, 1) := by decide +kernel
theorem zd_Shapes_tell_68 : decode zc_Shapes_tell 68 = .ok (.getfield 15, 3) := by decide +kernel
theorem zd_Shapes_tell_71 : decode zc_Shapes_tell 71 = .ok (.getfield 43, 3) := by decide +kernel
theorem zd_Shapes_tell_74 : decode zc_Shapes_tell 74 = .ok (.iload_n 1, 1) := by decide +kernel
theorem zd_Shapes_tell_75 : decode zc_Shapes_tell 75 = .ok (.iaload, 1) := by decide +kernel
theorem zd_Shapes_tell_76 : decode zc_Shapes_tell 76 = .ok (.ireturn, 1) := by decide +kernel
theorem zd_Shapes_isStart_43 : decode zc_Shapes_isStart 43 = .ok (.iconst 1, 1) := by decide +kernel
theorem zd_Shapes_isStart_44 : decode zc_Shapes_isStart 44 = .ok (.goto 4, 3) := by decide +kernel
theorem zd_Shapes_isStart_47 : decode zc_Shapes_isStart 47 = .ok (.iconst 0, 1) := by decide +kernel
theorem zd_Shapes_isStart_48 : decode zc_Shapes_isStart 48 = .ok (.ireturn, 1) := by decide +kernel
theorem zd_Shapes_isStart_0 : decode zc_Shapes_isStart 0 = .ok (.aload_n 0, 1) := by decide +kernel
theorem zd_Shapes_isStart_1 : decode zc_Shapes_isStart 1 = .ok (.getfield 15, 3) := by decide +kernel
theorem zd_Shapes_isStart_4 : decode zc_Shapes_isStart 4 = .ok (.getfield 43, 3) := by decide +kernel
theorem zd_Shapes_isStart_7 : decode zc_Shapes_isStart 7 = .ok (.iload_n 1, 1) := by decide +kernel
theorem zd_Shapes_isStart_8 : decode zc_Shapes_isStart 8 = .ok (.iaload, 1) := by decide +kernel
theorem zd_Shapes_isStart_9 : decode zc_Shapes_isStart 9 = .ok (.istore_n 2, 1) := by decide +kernel
theorem zd_Shapes_isStart_10 : decode zc_Shapes_isStart 10 = .ok (.aload_n 0, 1) := by decide +kernel
theorem zd_Shapes_isStart_11 : decode zc_Shapes_isStart 11 = .ok (.getfield 9, 3) := by decide +kernel
theorem zd_Shapes_isStart_14 : decode zc_Shapes_isStart 14 = .ok (.iload_n 1, 1) := by decide +kernel
theorem zd_Shapes_isStart_15 : decode zc_Shapes_isStart 15 = .ok (.iconst 0, 1) := by decide +kernel
theorem zd_Shapes_isStart_16 : decode zc_Shapes_isStart 16 = .ok (.invokevirtual 48, 3) := by decide +kernel
theorem zd_Shapes_isStart_19 : decode zc_Shapes_isStart 19 = .ok (.istore_n 3, 1) := by decide +kernel
theorem zd_Shapes_isStart_20 : decode zc_Shapes_isStart 20 = .ok (.iload_n 2, 1) := by decide +kernel
theorem zd_Shapes_isStart_21 : decode zc_Shapes_isStart 21 = .ok (.iconst (-1), 1) := by decide +kernel
theorem zd_Shapes_isStart_22 : decode zc_Shapes_isStart 22 = .ok (.if_icmp .eq 25, 3) := by decide +kernel
theorem zd_Shapes_isStart_25 : decode zc_Shapes_isStart 25 = .ok (.iload_n 3, 1) := by decide +kernel
theorem zd_Shapes_isStart_26 : decode zc_Shapes_isStart 26 = .ok (.iconst (-1), 1) := by decide +kernel
theorem zd_Shapes_isStart_27 : decode zc_Shapes_isStart 27 = .ok (.if_icmp .eq 16, 3) := by decide +kernel
theorem zd_Shapes_isStart_30 : decode zc_Shapes_isStart 30 = .ok (.aload_n 0, 1) := by decide +kernel
theorem zd_Shapes_isStart_31 : decode zc_Shapes_isStart 31 = .ok (.getfield 15, 3) := by decide +kernel
theorem zd_Shapes_isStart_34 : decode zc_Shapes_isStart 34 = .ok (.getfield 43, 3) := by decide +kernel
theorem zd_Shapes_isStart_37 : decode zc_Shapes_isStart 37 = .ok (.iload_n 3, 1) := by decide +kernel
theorem zd_Shapes_isStart_38 : decode zc_Shapes_isStart 38 = .ok (.iaload, 1) := by decide +kernel
theorem zd_Shapes_isStart_39 : decode zc_Shapes_isStart 39 = .ok (.iload_n 2, 1) := by decide +kernel
theorem zd_Shapes_isStart_40 : decode zc_Shapes_isStart 40 = .ok (.if_icmp .eq 7, 3) := by decide +kernel
theorem zd_Shapes_lastX_12 : decode zc_Shapes_lastX 12 = .ok (.iload_n 2, 1) := by decide +kernel
theorem zd_Shapes_lastX_13 : decode zc_Shapes_lastX 13 = .ok (.aload_n 0, 1) := by decide +kernel
theorem zd_Shapes_lastX_14 : decode zc_Shapes_lastX 14 = .ok (.getfield 9, 3) := by decide +kernel
theorem zd_Shapes_lastX_17 : decode zc_Shapes_lastX 17 = .ok (.getfield 52, 3) := by decide +kernel
theorem zd_Shapes_lastX_20 : decode zc_Shapes_lastX 20 = .ok (.iconst 1, 1) := by decide +kernel
theorem zd_Shapes_lastX_21 : decode zc_Shapes_lastX 21 = .ok (.isub, 1) := by decide +kernel
theorem zd_Shapes_lastX_22 : decode zc_Shapes_lastX 22 = .ok (.if_icmp .ge 35, 3) := by decide +kernel
theorem zd_Shapes_lastX_25 : decode zc_Shapes_lastX 25 = .ok (.aload_n 0, 1) := by decide +kernel
theorem zd_Shapes_lastX_26 : decode zc_Shapes_lastX 26 = .ok (.getfield 15, 3) := by decide +kernel
theorem zd_Shapes_lastX_29 : decode zc_Shapes_lastX 29 = .ok (.getfield 43, 3) := by decide +kernel
theorem zd_Shapes_lastX_32 : decode zc_Shapes_lastX 32 = .ok (.iload_n 3, 1) := by decide +kernel
theorem zd_Shapes_lastX_33 : decode zc_Shapes_lastX 33 = .ok (.iconst 1, 1) := by decide +kernel
theorem zd_Shapes_lastX_34 : decode zc_Shapes_lastX 34 = .ok (.iadd, 1) := by decide +kernel
theorem zd_Shapes_lastX_35 : decode zc_Shapes_lastX 35 = .ok (.iaload, 1) := by decide +kernel
theorem zd_Shapes_lastX_36 : decode zc_Shapes_lastX 36 = .ok (.aload_n 0, 1) := by decide +kernel
theorem zd_Shapes_lastX_37 : decode zc_Shapes_lastX 37 = .ok (.getfield 15, 3) := by decide +kernel
theorem zd_Shapes_lastX_40 : decode zc_Shapes_lastX 40 = .ok (.getfield 43, 3) := by decide +kernel
theorem zd_Shapes_lastX_43 : decode zc_Shapes_lastX 43 = .ok (.iload_n 1, 1) := by decide +kernel
theorem zd_Shapes_lastX_44 : decode zc_Shapes_lastX 44 = .ok (.iaload, 1) := by decide +kernel
theorem zd_Shapes_lastX_45 : decode zc_Shapes_lastX 45 = .ok (.if_icmp .ne 12, 3) := by decide +kernel
theorem zd_Shapes_lastX_48 : decode zc_Shapes_lastX 48 = .ok (.iinc 3 1, 3) := by decide +kernel
theorem zd_Shapes_lastX_51 : decode zc_Shapes_lastX 51 = .ok (.iinc 2 1, 3) := by decide +kernel
theorem zd_Shapes_lastX_54 : decode zc_Shapes_lastX 54 = .ok (.goto (-42), 3) := by decide +kernel
theorem zd_Shapes_lastX_57 : decode zc_Shapes_lastX 57 = .ok (.iload_n 2, 1) := by decide +kernel
theorem zd_Shapes_lastX_58 : decode zc_Shapes_lastX 58 = .ok (.ireturn, 1) := by decide +kernel
theorem zd_Shapes_lastX_0 : decode zc_Shapes_lastX 0 = .ok (.aload_n 0, 1) := by decide +kernel
theorem zd_Shapes_lastX_1 : decode zc_Shapes_lastX 1 = .ok (.getfield 9, 3) := by decide +kernel
theorem zd_Shapes_lastX_4 : decode zc_Shapes_lastX 4 = .ok (.getfield 37, 3) := by decide +kernel
theorem zd_Shapes_lastX_7 : decode zc_Shapes_lastX 7 = .ok (.iload_n 1, 1) := by decide +kernel
theorem zd_Shapes_lastX_8 : decode zc_Shapes_lastX 8 = .ok (.iaload, 1) := by decide +kernel
theorem zd_Shapes_lastX_9 : decode zc_Shapes_lastX 9 = .ok (.istore_n 2, 1) := by decide +kernel
theorem zd_Shapes_lastX_10 : decode zc_Shapes_lastX 10 = .ok (.iload_n 1, 1) := by decide +kernel
theorem zd_Shapes_lastX_11 : decode zc_Shapes_lastX 11 = .ok (.istore_n 3, 1) := by decide +kernel
theorem zd_WayFinder_find_2 : decode zc_WayFinder_find 2 = .ok (.iload_n 3, 1) := by decide +kernel
theorem zd_WayFinder_find_3 : decode zc_WayFinder_find 3 = .ok (.aload_n 0, 1) := by decide +kernel
theorem zd_WayFinder_find_4 : decode zc_WayFinder_find 4 = .ok (.getfield 21, 3) := by decide +kernel
theorem zd_WayFinder_find_7 : decode zc_WayFinder_find 7 = .ok (.getfield 36, 3) := by decide +kernel
theorem zd_WayFinder_find_10 : decode zc_WayFinder_find 10 = .ok (.if_icmp .ge 34, 3) := by decide +kernel
theorem zd_WayFinder_find_44 : decode zc_WayFinder_find 44 = .ok (.aload_n 0, 1) := by decide +kernel
theorem zd_WayFinder_find_45 : decode zc_WayFinder_find 45 = .ok (.aload_n 0, 1) := by decide +kernel
theorem zd_WayFinder_find_46 : decode zc_WayFinder_find 46 = .ok (.getfield 25, 3) := by decide +kernel
theorem zd_WayFinder_find_49 : decode zc_WayFinder_find 49 = .ok (.getfield 65, 3) := by decide +kernel
theorem zd_WayFinder_find_52 : decode zc_WayFinder_find 52 = .ok (.iload_n 1, 1) := by decide +kernel
theorem zd_WayFinder_find_53 : decode zc_WayFinder_find 53 = .ok (.iaload, 1) := by decide +kernel
theorem zd_WayFinder_find_54 : decode zc_WayFinder_find 54 = .ok (.invokevirtual 70, 3) := by decide +kernel
theorem zd_WayFinder_find_57 : decode zc_WayFinder_find 57 = .ok (.aload_n 0, 1) := by decide +kernel
theorem zd_WayFinder_find_58 : decode zc_WayFinder_find 58 = .ok (.getfield 48, 3) := by decide +kernel
theorem zd_WayFinder_find_61 : decode zc_WayFinder_find 61 = .ok (.aload_n 0, 1) := by decide +kernel
theorem zd_WayFinder_find_62 : decode zc_WayFinder_find 62 = .ok (.getfield 25, 3) := by decide +kernel
theorem zd_WayFinder_find_65 : decode zc_WayFinder_find 65 = .ok (.getfield 74, 3) := by decide +kernel
theorem zd_WayFinder_find_68 : decode zc_WayFinder_find 68 = .ok (.iload_n 1, 1) := by decide +kernel
theorem zd_WayFinder_find_69 : decode zc_WayFinder_find 69 = .ok (.iaload, 1) := by decide +kernel
theorem zd_WayFinder_find_70 : decode zc_WayFinder_find 70 = .ok (.iaload, 1) := by decide +kernel
theorem zd_WayFinder_find_71 : decode zc_WayFinder_find 71 = .ok (.istore_n 3, 1) := by decide +kernel
theorem zd_WayFinder_find_72 : decode zc_WayFinder_find 72 = .ok (.iload_n 3, 1) := by decide +kernel
theorem zd_WayFinder_find_73 : decode zc_WayFinder_find 73 = .ok (.ldc 77, 2) := by decide +kernel
theorem zd_WayFinder_find_75 : decode zc_WayFinder_find 75 = .ok (.if_icmp .ne 10, 3) := by decide +kernel
theorem zd_WayFinder_find_85 : decode zc_WayFinder_find 85 = .ok (.aload_n 0, 1) := by decide +kernel
theorem zd_WayFinder_find_86 : decode zc_WayFinder_find 86 = .ok (.aload_n 0, 1) := by decide +kernel
theorem zd_WayFinder_find_87 : decode zc_WayFinder_find 87 = .ok (.getfield 25, 3) := by decide +kernel
theorem zd_WayFinder_find_90 : decode zc_WayFinder_find 90 = .ok (.getfield 65, 3) := by decide +kernel
theorem zd_WayFinder_find_93 : decode zc_WayFinder_find 93 = .ok (.iload_n 1, 1) := by decide +kernel
theorem zd_WayFinder_find_94 : decode zc_WayFinder_find 94 = .ok (.iaload, 1) := by decide +kernel
theorem zd_WayFinder_find_95 : decode zc_WayFinder_find 95 = .ok (.aload_n 0, 1) := by decide +kernel
theorem zd_WayFinder_find_96 : decode zc_WayFinder_find 96 = .ok (.getfield 25, 3) := by decide +kernel
theorem zd_WayFinder_find_99 : decode zc_WayFinder_find 99 = .ok (.getfield 74, 3) := by decide +kernel
theorem zd_WayFinder_find_102 : decode zc_WayFinder_find 102 = .ok (.iload_n 1, 1) := by decide +kernel
theorem zd_WayFinder_find_103 : decode zc_WayFinder_find 103 = .ok (.iaload, 1) := by decide +kernel
theorem zd_WayFinder_find_104 : decode zc_WayFinder_find 104 = .ok (.invokevirtual 78, 3) := by decide +kernel
theorem zd_WayFinder_find_107 : decode zc_WayFinder_find 107 = .ok (.iload_n 3, 1) := by decide +kernel
theorem zd_WayFinder_find_108 : decode zc_WayFinder_find 108 = .ok (.ireturn, 1) := by decide +kernel
theorem zd_WayFinder_find_78 : decode zc_WayFinder_find 78 = .ok (.aload_n 0, 1) := by decide +kernel
theorem zd_WayFinder_find_79 : decode zc_WayFinder_find 79 = .ok (.iconst 0, 1) := by decide +kernel
theorem zd_WayFinder_find_80 : decode zc_WayFinder_find 80 = .ok (.putfield 9, 3) := by decide +kernel
theorem zd_WayFinder_find_83 : decode zc_WayFinder_find 83 = .ok (.iconst (-1), 1) := by decide +kernel
theorem zd_WayFinder_find_84 : decode zc_WayFinder_find 84 = .ok (.ireturn, 1) := by decide +kernel
theorem zd_WayFinder_find_13 : decode zc_WayFinder_find 13 = .ok (.aload_n 0, 1) := by decide +kernel
theorem zd_WayFinder_find_14 : decode zc_WayFinder_find 14 = .ok (.getfield 45, 3) := by decide +kernel
theorem zd_WayFinder_find_17 : decode zc_WayFinder_find 17 = .ok (.iload_n 3, 1) := by decide +kernel
theorem zd_WayFinder_find_18 : decode zc_WayFinder_find 18 = .ok (.iload_n 2, 1) := by decide +kernel
theorem zd_WayFinder_find_19 : decode zc_WayFinder_find 19 = .ok (.ifCond .eq 12, 3) := by decide +kernel
theorem zd_WayFinder_find_31 : decode zc_WayFinder_find 31 = .ok (.aload_n 0, 1) := by decide +kernel
theorem zd_WayFinder_find_32 : decode zc_WayFinder_find 32 = .ok (.iload_n 3, 1) := by decide +kernel
theorem zd_WayFinder_find_33 : decode zc_WayFinder_find 33 = .ok (.iload_n 1, 1) := by decide +kernel
theorem zd_WayFinder_find_34 : decode zc_WayFinder_find 34 = .ok (.invokevirtual 62, 3) := by decide +kernel
theorem zd_WayFinder_find_22 : decode zc_WayFinder_find 22 = .ok (.aload_n 0, 1) := by decide +kernel
theorem zd_WayFinder_find_23 : decode zc_WayFinder_find 23 = .ok (.iload_n 3, 1) := by decide +kernel
theorem zd_WayFinder_find_24 : decode zc_WayFinder_find 24 = .ok (.iload_n 1, 1) := by decide +kernel
theorem zd_WayFinder_find_25 : decode zc_WayFinder_find 25 = .ok (.invokevirtual 58, 3) := by decide +kernel
theorem zd_WayFinder_find_28 : decode zc_WayFinder_find 28 = .ok (.goto 9, 3) := by decide +kernel
theorem zd_WayFinder_find_37 : decode zc_WayFinder_find 37 = .ok (.iastore, 1) := by decide +kernel
theorem zd_WayFinder_find_38 : decode zc_WayFinder_find 38 = .ok (.iinc 3 1, 3) := by decide +kernel
theorem zd_WayFinder_find_41 : decode zc_WayFinder_find 41 = .ok (.goto (-39), 3) := by decide +kernel
theorem zd_WayFinder_find_0 : decode zc_WayFinder_find 0 = .ok (.iconst 0, 1) := by decide +kernel
theorem zd_WayFinder_find_1 : decode zc_WayFinder_find 1 = .ok (.istore_n 3, 1) := by decide +kernel
theorem zd_WayFinder_freeToll_39 : decode zc_WayFinder_freeToll 39 = .ok (.iconst (-1), 1) := by decide +kernel
theorem zd_WayFinder_freeToll_40 : decode zc_WayFinder_freeToll 40 = .ok (.goto 4, 3) := by decide +kernel
theorem zd_WayFinder_freeToll_44 : decode zc_WayFinder_freeToll 44 = .ok (.ireturn, 1) := by decide +kernel
theorem zd_WayFinder_freeToll_0 : decode zc_WayFinder_freeToll 0 = .ok (.aload_n 0, 1) := by decide +kernel
theorem zd_WayFinder_freeToll_1 : decode zc_WayFinder_freeToll 1 = .ok (.getfield 25, 3) := by decide +kernel
theorem zd_WayFinder_freeToll_4 : decode zc_WayFinder_freeToll 4 = .ok (.getfield 82, 3) := by decide +kernel
theorem zd_WayFinder_freeToll_7 : decode zc_WayFinder_freeToll 7 = .ok (.iload_n 1, 1) := by decide +kernel
theorem zd_WayFinder_freeToll_8 : decode zc_WayFinder_freeToll 8 = .ok (.iaload, 1) := by decide +kernel
theorem zd_WayFinder_freeToll_9 : decode zc_WayFinder_freeToll 9 = .ok (.iload_n 2, 1) := by decide +kernel
theorem zd_WayFinder_freeToll_10 : decode zc_WayFinder_freeToll 10 = .ok (.if_icmp .ne 5, 3) := by decide +kernel
theorem zd_WayFinder_freeToll_15 : decode zc_WayFinder_freeToll 15 = .ok (.aload_n 0, 1) := by decide +kernel
theorem zd_WayFinder_freeToll_16 : decode zc_WayFinder_freeToll 16 = .ok (.getfield 29, 3) := by decide +kernel
theorem zd_WayFinder_freeToll_19 : decode zc_WayFinder_freeToll 19 = .ok (.iload_n 1, 1) := by decide +kernel
theorem zd_WayFinder_freeToll_20 : decode zc_WayFinder_freeToll 20 = .ok (.iload_n 2, 1) := by decide +kernel
theorem zd_WayFinder_freeToll_21 : decode zc_WayFinder_freeToll 21 = .ok (.invokevirtual 85, 3) := by decide +kernel
theorem zd_WayFinder_freeToll_24 : decode zc_WayFinder_freeToll 24 = .ok (.ifCond .ne 15, 3) := by decide +kernel
theorem zd_WayFinder_freeToll_27 : decode zc_WayFinder_freeToll 27 = .ok (.aload_n 0, 1) := by decide +kernel
theorem zd_WayFinder_freeToll_28 : decode zc_WayFinder_freeToll 28 = .ok (.getfield 29, 3) := by decide +kernel
theorem zd_WayFinder_freeToll_31 : decode zc_WayFinder_freeToll 31 = .ok (.iload_n 1, 1) := by decide +kernel
theorem zd_WayFinder_freeToll_32 : decode zc_WayFinder_freeToll 32 = .ok (.iload_n 2, 1) := by decide +kernel
theorem zd_WayFinder_freeToll_33 : decode zc_WayFinder_freeToll 33 = .ok (.invokevirtual 91, 3) := by decide +kernel
theorem zd_WayFinder_freeToll_36 : decode zc_WayFinder_freeToll 36 = .ok (.ifCond .eq 7, 3) := by decide +kernel
theorem zd_WayFinder_freeToll_43 : decode zc_WayFinder_freeToll 43 = .ok (.iconst 0, 1) := by decide +kernel
theorem zd_WayFinder_freeToll_13 : decode zc_WayFinder_freeToll 13 = .ok (.iconst 0, 1) := by decide +kernel
theorem zd_WayFinder_freeToll_14 : decode zc_WayFinder_freeToll 14 = .ok (.ireturn, 1) := by decide +kernel
theorem zd_WayFinder_pushToll_27 : decode zc_WayFinder_pushToll 27 = .ok (.aload_n 0, 1) := by decide +kernel
theorem zd_WayFinder_pushToll_28 : decode zc_WayFinder_pushToll 28 = .ok (.getfield 29, 3) := by decide +kernel
theorem zd_WayFinder_pushToll_31 : decode zc_WayFinder_pushToll 31 = .ok (.iload_n 1, 1) := by decide +kernel
theorem zd_WayFinder_pushToll_32 : decode zc_WayFinder_pushToll 32 = .ok (.iload_n 2, 1) := by decide +kernel
theorem zd_WayFinder_pushToll_33 : decode zc_WayFinder_pushToll 33 = .ok (.invokevirtual 91, 3) := by decide +kernel
theorem zd_WayFinder_pushToll_36 : decode zc_WayFinder_pushToll 36 = .ok (.ifCond .eq 8, 3) := by decide +kernel
theorem zd_WayFinder_pushToll_44 : decode zc_WayFinder_pushToll 44 = .ok (.iconst 0, 1) := by decide +kernel
theorem zd_WayFinder_pushToll_39 : decode zc_WayFinder_pushToll 39 = .ok (.bipush 10, 2) := by decide +kernel
theorem zd_WayFinder_pushToll_41 : decode zc_WayFinder_pushToll 41 = .ok (.goto 4, 3) := by decide +kernel
theorem zd_WayFinder_pushToll_45 : decode zc_WayFinder_pushToll 45 = .ok (.ireturn, 1) := by decide +kernel
theorem zd_WayFinder_pushToll_0 : decode zc_WayFinder_pushToll 0 = .ok (.aload_n 0, 1) := by decide +kernel
theorem zd_WayFinder_pushToll_1 : decode zc_WayFinder_pushToll 1 = .ok (.getfield 25, 3) := by decide +kernel
theorem zd_WayFinder_pushToll_4 : decode zc_WayFinder_pushToll 4 = .ok (.getfield 82, 3) := by decide +kernel
theorem zd_WayFinder_pushToll_7 : decode zc_WayFinder_pushToll 7 = .ok (.iload_n 1, 1) := by decide +kernel
theorem zd_WayFinder_pushToll_8 : decode zc_WayFinder_pushToll 8 = .ok (.iaload, 1) := by decide +kernel
theorem zd_WayFinder_pushToll_9 : decode zc_WayFinder_pushToll 9 = .ok (.iload_n 2, 1) := by decide +kernel
theorem zd_WayFinder_pushToll_10 : decode zc_WayFinder_pushToll 10 = .ok (.if_icmp .eq 17, 3) := by decide +kernel
theorem zd_WayFinder_pushToll_13 : decode zc_WayFinder_pushToll 13 = .ok (.aload_n 0, 1) := by decide +kernel
theorem zd_WayFinder_pushToll_14 : decode zc_WayFinder_pushToll 14 = .ok (.getfield 29, 3) := by decide +kernel
theorem zd_WayFinder_pushToll_17 : decode zc_WayFinder_pushToll 17 = .ok (.iload_n 1, 1) := by decide +kernel
theorem zd_WayFinder_pushToll_18 : decode zc_WayFinder_pushToll 18 = .ok (.iload_n 2, 1) := by decide +kernel
theorem zd_WayFinder_pushToll_19 : decode zc_WayFinder_pushToll 19 = .ok (.invokevirtual 85, 3) := by decide +kernel
theorem zd_WayFinder_pushToll_22 : decode zc_WayFinder_pushToll 22 = .ok (.ifCond .eq 5, 3) := by decide +kernel
theorem zd_WayFinder_pushToll_25 : decode zc_WayFinder_pushToll 25 = .ok (.iconst (-1), 1) := by decide +kernel
theorem zd_WayFinder_pushToll_26 : decode zc_WayFinder_pushToll 26 = .ok (.ireturn, 1) := by decide +kernel
theorem zd_WayFinder_spread_2 : decode zc_WayFinder_spread 2 = .ok (.iload_n 2, 1) := by decide +kernel
theorem zd_WayFinder_spread_3 : decode zc_WayFinder_spread 3 = .ok (.aload_n 0, 1) := by decide +kernel
theorem zd_WayFinder_spread_4 : decode zc_WayFinder_spread 4 = .ok (.getfield 21, 3) := by decide +kernel
theorem zd_WayFinder_spread_7 : decode zc_WayFinder_spread 7 = .ok (.getfield 36, 3) := by decide +kernel
theorem zd_WayFinder_spread_10 : decode zc_WayFinder_spread 10 = .ok (.if_icmp .ge 24, 3) := by decide +kernel
theorem zd_WayFinder_spread_34 : decode zc_WayFinder_spread 34 = .ok (.aload_n 0, 1) := by decide +kernel
theorem zd_WayFinder_spread_35 : decode zc_WayFinder_spread 35 = .ok (.iconst 0, 1) := by decide +kernel
theorem zd_WayFinder_spread_36 : decode zc_WayFinder_spread 36 = .ok (.putfield 15, 3) := by decide +kernel
theorem zd_WayFinder_spread_39 : decode zc_WayFinder_spread 39 = .ok (.aload_n 0, 1) := by decide +kernel
theorem zd_WayFinder_spread_40 : decode zc_WayFinder_spread 40 = .ok (.iconst 0, 1) := by decide +kernel
theorem zd_WayFinder_spread_41 : decode zc_WayFinder_spread 41 = .ok (.putfield 18, 3) := by decide +kernel
theorem zd_WayFinder_spread_44 : decode zc_WayFinder_spread 44 = .ok (.aload_n 0, 1) := by decide +kernel
theorem zd_WayFinder_spread_45 : decode zc_WayFinder_spread 45 = .ok (.getfield 48, 3) := by decide +kernel
theorem zd_WayFinder_spread_48 : decode zc_WayFinder_spread 48 = .ok (.iload_n 1, 1) := by decide +kernel
theorem zd_WayFinder_spread_49 : decode zc_WayFinder_spread 49 = .ok (.iconst 0, 1) := by decide +kernel
theorem zd_WayFinder_spread_50 : decode zc_WayFinder_spread 50 = .ok (.iastore, 1) := by decide +kernel
theorem zd_WayFinder_spread_51 : decode zc_WayFinder_spread 51 = .ok (.aload_n 0, 1) := by decide +kernel
theorem zd_WayFinder_spread_52 : decode zc_WayFinder_spread 52 = .ok (.iload_n 1, 1) := by decide +kernel
theorem zd_WayFinder_spread_53 : decode zc_WayFinder_spread 53 = .ok (.invokevirtual 94, 3) := by decide +kernel
theorem zd_WayFinder_spread_56 : decode zc_WayFinder_spread 56 = .ok (.aload_n 0, 1) := by decide +kernel
theorem zd_WayFinder_spread_57 : decode zc_WayFinder_spread 57 = .ok (.getfield 21, 3) := by decide +kernel
theorem zd_WayFinder_spread_60 : decode zc_WayFinder_spread 60 = .ok (.getfield 36, 3) := by decide +kernel
theorem zd_WayFinder_spread_63 : decode zc_WayFinder_spread 63 = .ok (.aload_n 0, 1) := by decide +kernel
theorem zd_WayFinder_spread_64 : decode zc_WayFinder_spread 64 = .ok (.getfield 21, 3) := by decide +kernel
theorem zd_WayFinder_spread_67 : decode zc_WayFinder_spread 67 = .ok (.getfield 36, 3) := by decide +kernel
theorem zd_WayFinder_spread_70 : decode zc_WayFinder_spread 70 = .ok (.imul, 1) := by decide +kernel
theorem zd_WayFinder_spread_71 : decode zc_WayFinder_spread 71 = .ok (.istore_n 2, 1) := by decide +kernel
theorem zd_WayFinder_spread_72 : decode zc_WayFinder_spread 72 = .ok (.iconst 0, 1) := by decide +kernel
theorem zd_WayFinder_spread_73 : decode zc_WayFinder_spread 73 = .ok (.istore_n 3, 1) := by decide +kernel
theorem zd_WayFinder_spread_13 : decode zc_WayFinder_spread 13 = .ok (.aload_n 0, 1) := by decide +kernel
theorem zd_WayFinder_spread_14 : decode zc_WayFinder_spread 14 = .ok (.getfield 48, 3) := by decide +kernel
theorem zd_WayFinder_spread_17 : decode zc_WayFinder_spread 17 = .ok (.iload_n 2, 1) := by decide +kernel
theorem zd_WayFinder_spread_18 : decode zc_WayFinder_spread 18 = .ok (.ldc 77, 2) := by decide +kernel
theorem zd_WayFinder_spread_20 : decode zc_WayFinder_spread 20 = .ok (.iastore, 1) := by decide +kernel
theorem zd_WayFinder_spread_21 : decode zc_WayFinder_spread 21 = .ok (.aload_n 0, 1) := by decide +kernel
theorem zd_WayFinder_spread_22 : decode zc_WayFinder_spread 22 = .ok (.getfield 54, 3) := by decide +kernel
theorem zd_WayFinder_spread_25 : decode zc_WayFinder_spread 25 = .ok (.iload_n 2, 1) := by decide +kernel
theorem zd_WayFinder_spread_26 : decode zc_WayFinder_spread 26 = .ok (.iconst 0, 1) := by decide +kernel
theorem zd_WayFinder_spread_27 : decode zc_WayFinder_spread 27 = .ok (.bastore, 1) := by decide +kernel
theorem zd_WayFinder_spread_28 : decode zc_WayFinder_spread 28 = .ok (.iinc 2 1, 3) := by decide +kernel
theorem zd_WayFinder_spread_31 : decode zc_WayFinder_spread 31 = .ok (.goto (-29), 3) := by decide +kernel
theorem zd_WayFinder_spread_74 : decode zc_WayFinder_spread 74 = .ok (.iload_n 3, 1) := by decide +kernel
theorem zd_WayFinder_spread_75 : decode zc_WayFinder_spread 75 = .ok (.iload_n 2, 1) := by decide +kernel
theorem zd_WayFinder_spread_76 : decode zc_WayFinder_spread 76 = .ok (.if_icmp .ge 24, 3) := by decide +kernel
theorem zd_WayFinder_spread_79 : decode zc_WayFinder_spread 79 = .ok (.aload_n 0, 1) := by decide +kernel
theorem zd_WayFinder_spread_80 : decode zc_WayFinder_spread 80 = .ok (.getfield 18, 3) := by decide +kernel
theorem zd_WayFinder_spread_83 : decode zc_WayFinder_spread 83 = .ok (.ifCond .le 17, 3) := by decide +kernel
theorem zd_WayFinder_spread_86 : decode zc_WayFinder_spread 86 = .ok (.aload_n 0, 1) := by decide +kernel
theorem zd_WayFinder_spread_87 : decode zc_WayFinder_spread 87 = .ok (.aload_n 0, 1) := by decide +kernel
theorem zd_WayFinder_spread_88 : decode zc_WayFinder_spread 88 = .ok (.invokevirtual 97, 3) := by decide +kernel
theorem zd_WayFinder_spread_91 : decode zc_WayFinder_spread 91 = .ok (.invokevirtual 101, 3) := by decide +kernel
theorem zd_WayFinder_spread_94 : decode zc_WayFinder_spread 94 = .ok (.iinc 3 1, 3) := by decide +kernel
theorem zd_WayFinder_spread_97 : decode zc_WayFinder_spread 97 = .ok (.goto (-23), 3) := by decide +kernel
theorem zd_WayFinder_spread_100 : decode zc_WayFinder_spread 100 = .ok (.return_, 1) := by decide +kernel
theorem zd_WayFinder_spread_0 : decode zc_WayFinder_spread 0 = .ok (.iconst 0, 1) := by decide +kernel
theorem zd_WayFinder_spread_1 : decode zc_WayFinder_spread 1 = .ok (.istore_n 2, 1) := by decide +kernel
theorem zd_WayFinder_spreadFrom_2 : decode zc_WayFinder_spreadFrom 2 = .ok (.iload_n 2, 1) := by decide +kernel
theorem zd_WayFinder_spreadFrom_3 : decode zc_WayFinder_spreadFrom 3 = .ok (.iconst 5, 1) := by decide +kernel
theorem zd_WayFinder_spreadFrom_4 : decode zc_WayFinder_spreadFrom 4 = .ok (.if_icmp .ge 79, 3) := by decide +kernel
theorem zd_WayFinder_spreadFrom_83 : decode zc_WayFinder_spreadFrom 83 = .ok (.return_, 1) := by decide +kernel
theorem zd_WayFinder_spreadFrom_7 : decode zc_WayFinder_spreadFrom 7 = .ok (.aload_n 0, 1) := by decide +kernel
theorem zd_WayFinder_spreadFrom_8 : decode zc_WayFinder_spreadFrom 8 = .ok (.getfield 21, 3) := by decide +kernel
theorem zd_WayFinder_spreadFrom_11 : decode zc_WayFinder_spreadFrom 11 = .ok (.iload_n 1, 1) := by decide +kernel
theorem zd_WayFinder_spreadFrom_12 : decode zc_WayFinder_spreadFrom 12 = .ok (.iload_n 2, 1) := by decide +kernel
theorem zd_WayFinder_spreadFrom_13 : decode zc_WayFinder_spreadFrom 13 = .ok (.invokevirtual 104, 3) := by decide +kernel
theorem zd_WayFinder_spreadFrom_16 : decode zc_WayFinder_spreadFrom 16 = .ok (.istore_n 3, 1) := by decide +kernel
theorem zd_WayFinder_spreadFrom_17 : decode zc_WayFinder_spreadFrom 17 = .ok (.iload_n 3, 1) := by decide +kernel
theorem zd_WayFinder_spreadFrom_18 : decode zc_WayFinder_spreadFrom 18 = .ok (.iconst (-1), 1) := by decide +kernel
theorem zd_WayFinder_spreadFrom_19 : decode zc_WayFinder_spreadFrom 19 = .ok (.if_icmp .eq 58, 3) := by decide +kernel
theorem zd_WayFinder_spreadFrom_22 : decode zc_WayFinder_spreadFrom 22 = .ok (.aload_n 0, 1) := by decide +kernel
theorem zd_WayFinder_spreadFrom_23 : decode zc_WayFinder_spreadFrom 23 = .ok (.getfield 45, 3) := by decide +kernel
theorem zd_WayFinder_spreadFrom_26 : decode zc_WayFinder_spreadFrom 26 = .ok (.iload_n 3, 1) := by decide +kernel
theorem zd_WayFinder_spreadFrom_27 : decode zc_WayFinder_spreadFrom 27 = .ok (.iaload, 1) := by decide +kernel
theorem zd_WayFinder_spreadFrom_28 : decode zc_WayFinder_spreadFrom 28 = .ok (.iconst (-1), 1) := by decide +kernel
theorem zd_WayFinder_spreadFrom_29 : decode zc_WayFinder_spreadFrom 29 = .ok (.if_icmp .eq 48, 3) := by decide +kernel
theorem zd_WayFinder_spreadFrom_32 : decode zc_WayFinder_spreadFrom 32 = .ok (.aload_n 0, 1) := by decide +kernel
theorem zd_WayFinder_spreadFrom_33 : decode zc_WayFinder_spreadFrom 33 = .ok (.getfield 48, 3) := by decide +kernel
theorem zd_WayFinder_spreadFrom_36 : decode zc_WayFinder_spreadFrom 36 = .ok (.iload_n 1, 1) := by decide +kernel
theorem zd_WayFinder_spreadFrom_37 : decode zc_WayFinder_spreadFrom 37 = .ok (.iaload, 1) := by decide +kernel
theorem zd_WayFinder_spreadFrom_38 : decode zc_WayFinder_spreadFrom 38 = .ok (.aload_n 0, 1) := by decide +kernel
theorem zd_WayFinder_spreadFrom_39 : decode zc_WayFinder_spreadFrom 39 = .ok (.iload_n 2, 1) := by decide +kernel
theorem zd_WayFinder_spreadFrom_40 : decode zc_WayFinder_spreadFrom 40 = .ok (.invokevirtual 107, 3) := by decide +kernel
theorem zd_WayFinder_spreadFrom_43 : decode zc_WayFinder_spreadFrom 43 = .ok (.iadd, 1) := by decide +kernel
theorem zd_WayFinder_spreadFrom_44 : decode zc_WayFinder_spreadFrom 44 = .ok (.aload_n 0, 1) := by decide +kernel
theorem zd_WayFinder_spreadFrom_45 : decode zc_WayFinder_spreadFrom 45 = .ok (.getfield 45, 3) := by decide +kernel
theorem zd_WayFinder_spreadFrom_48 : decode zc_WayFinder_spreadFrom 48 = .ok (.iload_n 3, 1) := by decide +kernel
theorem zd_WayFinder_spreadFrom_49 : decode zc_WayFinder_spreadFrom 49 = .ok (.iaload, 1) := by decide +kernel
theorem zd_WayFinder_spreadFrom_50 : decode zc_WayFinder_spreadFrom 50 = .ok (.iadd, 1) := by decide +kernel
theorem zd_WayFinder_spreadFrom_51 : decode zc_WayFinder_spreadFrom 51 = .ok (.istore 4, 2) := by decide +kernel
theorem zd_WayFinder_spreadFrom_53 : decode zc_WayFinder_spreadFrom 53 = .ok (.iload 4, 2) := by decide +kernel
theorem zd_WayFinder_spreadFrom_55 : decode zc_WayFinder_spreadFrom 55 = .ok (.aload_n 0, 1) := by decide +kernel
theorem zd_WayFinder_spreadFrom_56 : decode zc_WayFinder_spreadFrom 56 = .ok (.getfield 48, 3) := by decide +kernel
theorem zd_WayFinder_spreadFrom_59 : decode zc_WayFinder_spreadFrom 59 = .ok (.iload_n 3, 1) := by decide +kernel
theorem zd_WayFinder_spreadFrom_60 : decode zc_WayFinder_spreadFrom 60 = .ok (.iaload, 1) := by decide +kernel
theorem zd_WayFinder_spreadFrom_61 : decode zc_WayFinder_spreadFrom 61 = .ok (.if_icmp .ge 16, 3) := by decide +kernel
theorem zd_WayFinder_spreadFrom_64 : decode zc_WayFinder_spreadFrom 64 = .ok (.aload_n 0, 1) := by decide +kernel
theorem zd_WayFinder_spreadFrom_65 : decode zc_WayFinder_spreadFrom 65 = .ok (.getfield 48, 3) := by decide +kernel
theorem zd_WayFinder_spreadFrom_68 : decode zc_WayFinder_spreadFrom 68 = .ok (.iload_n 3, 1) := by decide +kernel
theorem zd_WayFinder_spreadFrom_69 : decode zc_WayFinder_spreadFrom 69 = .ok (.iload 4, 2) := by decide +kernel
theorem zd_WayFinder_spreadFrom_71 : decode zc_WayFinder_spreadFrom 71 = .ok (.iastore, 1) := by decide +kernel
theorem zd_WayFinder_spreadFrom_72 : decode zc_WayFinder_spreadFrom 72 = .ok (.aload_n 0, 1) := by decide +kernel
theorem zd_WayFinder_spreadFrom_73 : decode zc_WayFinder_spreadFrom 73 = .ok (.iload_n 3, 1) := by decide +kernel
theorem zd_WayFinder_spreadFrom_74 : decode zc_WayFinder_spreadFrom 74 = .ok (.invokevirtual 94, 3) := by decide +kernel
theorem zd_WayFinder_spreadFrom_77 : decode zc_WayFinder_spreadFrom 77 = .ok (.iinc 2 1, 3) := by decide +kernel
theorem zd_WayFinder_spreadFrom_80 : decode zc_WayFinder_spreadFrom 80 = .ok (.goto (-78), 3) := by decide +kernel
theorem zd_WayFinder_spreadFrom_0 : decode zc_WayFinder_spreadFrom 0 = .ok (.iconst 0, 1) := by decide +kernel
theorem zd_WayFinder_spreadFrom_1 : decode zc_WayFinder_spreadFrom 1 = .ok (.istore_n 2, 1) := by decide +kernel
theorem zd_WayFinder_stepCost_13 : decode zc_WayFinder_stepCost 13 = .ok (.ireturn, 1) := by decide +kernel
theorem zd_WayFinder_stepCost_0 : decode zc_WayFinder_stepCost 0 = .ok (.iload_n 1, 1) := by decide +kernel
theorem zd_WayFinder_stepCost_1 : decode zc_WayFinder_stepCost 1 = .ok (.iconst 4, 1) := by decide +kernel
theorem zd_WayFinder_stepCost_2 : decode zc_WayFinder_stepCost 2 = .ok (.if_icmp .ne 10, 3) := by decide +kernel
theorem zd_WayFinder_stepCost_12 : decode zc_WayFinder_stepCost 12 = .ok (.iconst 1, 1) := by decide +kernel
theorem zd_WayFinder_stepCost_5 : decode zc_WayFinder_stepCost 5 = .ok (.aload_n 0, 1) := by decide +kernel
theorem zd_WayFinder_stepCost_6 : decode zc_WayFinder_stepCost 6 = .ok (.getfield 33, 3) := by decide +kernel
theorem zd_WayFinder_stepCost_9 : decode zc_WayFinder_stepCost 9 = .ok (.goto 4, 3) := by decide +kernel
theorem zd_WayFinder_enqueue_54 : decode zc_WayFinder_enqueue 54 = .ok (.iload_n 1, 1) := by decide +kernel
theorem zd_WayFinder_enqueue_55 : decode zc_WayFinder_enqueue 55 = .ok (.iastore, 1) := by decide +kernel
theorem zd_WayFinder_enqueue_56 : decode zc_WayFinder_enqueue 56 = .ok (.aload_n 0, 1) := by decide +kernel
theorem zd_WayFinder_enqueue_57 : decode zc_WayFinder_enqueue 57 = .ok (.dup, 1) := by decide +kernel
theorem zd_WayFinder_enqueue_58 : decode zc_WayFinder_enqueue 58 = .ok (.getfield 18, 3) := by decide +kernel
theorem zd_WayFinder_enqueue_61 : decode zc_WayFinder_enqueue 61 = .ok (.iconst 1, 1) := by decide +kernel
theorem zd_WayFinder_enqueue_62 : decode zc_WayFinder_enqueue 62 = .ok (.iadd, 1) := by decide +kernel
theorem zd_WayFinder_enqueue_63 : decode zc_WayFinder_enqueue 63 = .ok (.putfield 18, 3) := by decide +kernel
theorem zd_WayFinder_enqueue_66 : decode zc_WayFinder_enqueue 66 = .ok (.return_, 1) := by decide +kernel
theorem zd_WayFinder_enqueue_0 : decode zc_WayFinder_enqueue 0 = .ok (.aload_n 0, 1) := by decide +kernel
theorem zd_WayFinder_enqueue_1 : decode zc_WayFinder_enqueue 1 = .ok (.getfield 54, 3) := by decide +kernel
theorem zd_WayFinder_enqueue_4 : decode zc_WayFinder_enqueue 4 = .ok (.iload_n 1, 1) := by decide +kernel
theorem zd_WayFinder_enqueue_5 : decode zc_WayFinder_enqueue 5 = .ok (.baload, 1) := by decide +kernel
theorem zd_WayFinder_enqueue_6 : decode zc_WayFinder_enqueue 6 = .ok (.ifCond .ne 60, 3) := by decide +kernel
theorem zd_WayFinder_enqueue_9 : decode zc_WayFinder_enqueue 9 = .ok (.aload_n 0, 1) := by decide +kernel
theorem zd_WayFinder_enqueue_10 : decode zc_WayFinder_enqueue 10 = .ok (.getfield 54, 3) := by decide +kernel
theorem zd_WayFinder_enqueue_13 : decode zc_WayFinder_enqueue 13 = .ok (.iload_n 1, 1) := by decide +kernel
theorem zd_WayFinder_enqueue_14 : decode zc_WayFinder_enqueue 14 = .ok (.iconst 1, 1) := by decide +kernel
theorem zd_WayFinder_enqueue_15 : decode zc_WayFinder_enqueue 15 = .ok (.bastore, 1) := by decide +kernel
theorem zd_WayFinder_enqueue_16 : decode zc_WayFinder_enqueue 16 = .ok (.aload_n 0, 1) := by decide +kernel
theorem zd_WayFinder_enqueue_17 : decode zc_WayFinder_enqueue 17 = .ok (.getfield 15, 3) := by decide +kernel
theorem zd_WayFinder_enqueue_20 : decode zc_WayFinder_enqueue 20 = .ok (.aload_n 0, 1) := by decide +kernel
theorem zd_WayFinder_enqueue_21 : decode zc_WayFinder_enqueue 21 = .ok (.getfield 18, 3) := by decide +kernel
theorem zd_WayFinder_enqueue_24 : decode zc_WayFinder_enqueue 24 = .ok (.iadd, 1) := by decide +kernel
theorem zd_WayFinder_enqueue_25 : decode zc_WayFinder_enqueue 25 = .ok (.istore_n 2, 1) := by decide +kernel

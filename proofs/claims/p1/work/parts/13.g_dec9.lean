theorem zd_WayFinder_trace_6 : decode zc_WayFinder_trace 6 = .ok (.iconst 0, 1) := by decide +kernel
theorem zd_WayFinder_trace_7 : decode zc_WayFinder_trace 7 = .ok (.iload_n 3, 1) := by decide +kernel
theorem zd_WayFinder_trace_8 : decode zc_WayFinder_trace 8 = .ok (.iastore, 1) := by decide +kernel
theorem zd_WayFinder_trace_9 : decode zc_WayFinder_trace 9 = .ok (.aload_n 0, 1) := by decide +kernel
theorem zd_WayFinder_trace_10 : decode zc_WayFinder_trace 10 = .ok (.iconst 1, 1) := by decide +kernel
theorem zd_WayFinder_trace_11 : decode zc_WayFinder_trace 11 = .ok (.putfield 9, 3) := by decide +kernel
theorem zd_WayFinder_predecessor_2 : decode zc_WayFinder_predecessor 2 = .ok (.iload_n 2, 1) := by decide +kernel
theorem zd_WayFinder_predecessor_3 : decode zc_WayFinder_predecessor 3 = .ok (.iconst 5, 1) := by decide +kernel
theorem zd_WayFinder_predecessor_4 : decode zc_WayFinder_predecessor 4 = .ok (.if_icmp .ge 54, 3) := by decide +kernel
theorem zd_WayFinder_predecessor_58 : decode zc_WayFinder_predecessor 58 = .ok (.iload_n 1, 1) := by decide +kernel
theorem zd_WayFinder_predecessor_59 : decode zc_WayFinder_predecessor 59 = .ok (.ireturn, 1) := by decide +kernel
theorem zd_WayFinder_predecessor_7 : decode zc_WayFinder_predecessor 7 = .ok (.aload_n 0, 1) := by decide +kernel
theorem zd_WayFinder_predecessor_8 : decode zc_WayFinder_predecessor 8 = .ok (.getfield 21, 3) := by decide +kernel
theorem zd_WayFinder_predecessor_11 : decode zc_WayFinder_predecessor 11 = .ok (.iload_n 1, 1) := by decide +kernel
theorem zd_WayFinder_predecessor_12 : decode zc_WayFinder_predecessor 12 = .ok (.iload_n 2, 1) := by decide +kernel
theorem zd_WayFinder_predecessor_13 : decode zc_WayFinder_predecessor 13 = .ok (.invokevirtual 104, 3) := by decide +kernel
theorem zd_WayFinder_predecessor_16 : decode zc_WayFinder_predecessor 16 = .ok (.istore_n 3, 1) := by decide +kernel
theorem zd_WayFinder_predecessor_17 : decode zc_WayFinder_predecessor 17 = .ok (.iload_n 3, 1) := by decide +kernel
theorem zd_WayFinder_predecessor_18 : decode zc_WayFinder_predecessor 18 = .ok (.iconst (-1), 1) := by decide +kernel
theorem zd_WayFinder_predecessor_19 : decode zc_WayFinder_predecessor 19 = .ok (.if_icmp .eq 33, 3) := by decide +kernel
theorem zd_WayFinder_predecessor_22 : decode zc_WayFinder_predecessor 22 = .ok (.aload_n 0, 1) := by decide +kernel
theorem zd_WayFinder_predecessor_23 : decode zc_WayFinder_predecessor 23 = .ok (.getfield 48, 3) := by decide +kernel
theorem zd_WayFinder_predecessor_26 : decode zc_WayFinder_predecessor 26 = .ok (.iload_n 3, 1) := by decide +kernel
theorem zd_WayFinder_predecessor_27 : decode zc_WayFinder_predecessor 27 = .ok (.iaload, 1) := by decide +kernel
theorem zd_WayFinder_predecessor_28 : decode zc_WayFinder_predecessor 28 = .ok (.aload_n 0, 1) := by decide +kernel
theorem zd_WayFinder_predecessor_29 : decode zc_WayFinder_predecessor 29 = .ok (.iload_n 2, 1) := by decide +kernel
theorem zd_WayFinder_predecessor_30 : decode zc_WayFinder_predecessor 30 = .ok (.invokevirtual 107, 3) := by decide +kernel
theorem zd_WayFinder_predecessor_33 : decode zc_WayFinder_predecessor 33 = .ok (.iadd, 1) := by decide +kernel
theorem zd_WayFinder_predecessor_34 : decode zc_WayFinder_predecessor 34 = .ok (.aload_n 0, 1) := by decide +kernel
theorem zd_WayFinder_predecessor_35 : decode zc_WayFinder_predecessor 35 = .ok (.getfield 45, 3) := by decide +kernel
theorem zd_WayFinder_predecessor_38 : decode zc_WayFinder_predecessor 38 = .ok (.iload_n 1, 1) := by decide +kernel
theorem zd_WayFinder_predecessor_39 : decode zc_WayFinder_predecessor 39 = .ok (.iaload, 1) := by decide +kernel
theorem zd_WayFinder_predecessor_40 : decode zc_WayFinder_predecessor 40 = .ok (.iadd, 1) := by decide +kernel
theorem zd_WayFinder_predecessor_41 : decode zc_WayFinder_predecessor 41 = .ok (.aload_n 0, 1) := by decide +kernel
theorem zd_WayFinder_predecessor_42 : decode zc_WayFinder_predecessor 42 = .ok (.getfield 48, 3) := by decide +kernel
theorem zd_WayFinder_predecessor_45 : decode zc_WayFinder_predecessor 45 = .ok (.iload_n 1, 1) := by decide +kernel
theorem zd_WayFinder_predecessor_46 : decode zc_WayFinder_predecessor 46 = .ok (.iaload, 1) := by decide +kernel
theorem zd_WayFinder_predecessor_47 : decode zc_WayFinder_predecessor 47 = .ok (.if_icmp .ne 5, 3) := by decide +kernel
theorem zd_WayFinder_predecessor_50 : decode zc_WayFinder_predecessor 50 = .ok (.iload_n 3, 1) := by decide +kernel
theorem zd_WayFinder_predecessor_51 : decode zc_WayFinder_predecessor 51 = .ok (.ireturn, 1) := by decide +kernel
theorem zd_WayFinder_predecessor_52 : decode zc_WayFinder_predecessor 52 = .ok (.iinc 2 1, 3) := by decide +kernel
theorem zd_WayFinder_predecessor_55 : decode zc_WayFinder_predecessor 55 = .ok (.goto (-53), 3) := by decide +kernel
theorem zd_WayFinder_predecessor_0 : decode zc_WayFinder_predecessor 0 = .ok (.iconst 0, 1) := by decide +kernel
theorem zd_WayFinder_predecessor_1 : decode zc_WayFinder_predecessor 1 = .ok (.istore_n 2, 1) := by decide +kernel

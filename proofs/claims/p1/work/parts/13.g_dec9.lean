theorem zd_WayFinder_enqueue_26 : decode zc_WayFinder_enqueue 26 = .ok (.aload_n 0, 1) := by decide +kernel
theorem zd_WayFinder_enqueue_27 : decode zc_WayFinder_enqueue 27 = .ok (.getfield 51, 3) := by decide +kernel
theorem zd_WayFinder_enqueue_30 : decode zc_WayFinder_enqueue 30 = .ok (.iload_n 2, 1) := by decide +kernel
theorem zd_WayFinder_enqueue_31 : decode zc_WayFinder_enqueue 31 = .ok (.aload_n 0, 1) := by decide +kernel
theorem zd_WayFinder_enqueue_32 : decode zc_WayFinder_enqueue 32 = .ok (.getfield 21, 3) := by decide +kernel
theorem zd_WayFinder_enqueue_35 : decode zc_WayFinder_enqueue 35 = .ok (.getfield 36, 3) := by decide +kernel
theorem zd_WayFinder_enqueue_38 : decode zc_WayFinder_enqueue 38 = .ok (.if_icmp .ge 7, 3) := by decide +kernel
theorem zd_WayFinder_enqueue_45 : decode zc_WayFinder_enqueue 45 = .ok (.iload_n 2, 1) := by decide +kernel
theorem zd_WayFinder_enqueue_46 : decode zc_WayFinder_enqueue 46 = .ok (.aload_n 0, 1) := by decide +kernel
theorem zd_WayFinder_enqueue_47 : decode zc_WayFinder_enqueue 47 = .ok (.getfield 21, 3) := by decide +kernel
theorem zd_WayFinder_enqueue_50 : decode zc_WayFinder_enqueue 50 = .ok (.getfield 36, 3) := by decide +kernel
theorem zd_WayFinder_enqueue_53 : decode zc_WayFinder_enqueue 53 = .ok (.isub, 1) := by decide +kernel
theorem zd_WayFinder_enqueue_41 : decode zc_WayFinder_enqueue 41 = .ok (.iload_n 2, 1) := by decide +kernel
theorem zd_WayFinder_enqueue_42 : decode zc_WayFinder_enqueue 42 = .ok (.goto 12, 3) := by decide +kernel
theorem zd_WayFinder_dequeue_37 : decode zc_WayFinder_dequeue 37 = .ok (.putfield 15, 3) := by decide +kernel
theorem zd_WayFinder_dequeue_40 : decode zc_WayFinder_dequeue 40 = .ok (.aload_n 0, 1) := by decide +kernel
theorem zd_WayFinder_dequeue_41 : decode zc_WayFinder_dequeue 41 = .ok (.dup, 1) := by decide +kernel
theorem zd_WayFinder_dequeue_42 : decode zc_WayFinder_dequeue 42 = .ok (.getfield 18, 3) := by decide +kernel
theorem zd_WayFinder_dequeue_45 : decode zc_WayFinder_dequeue 45 = .ok (.iconst 1, 1) := by decide +kernel
theorem zd_WayFinder_dequeue_46 : decode zc_WayFinder_dequeue 46 = .ok (.isub, 1) := by decide +kernel
theorem zd_WayFinder_dequeue_47 : decode zc_WayFinder_dequeue 47 = .ok (.putfield 18, 3) := by decide +kernel
theorem zd_WayFinder_dequeue_50 : decode zc_WayFinder_dequeue 50 = .ok (.aload_n 0, 1) := by decide +kernel
theorem zd_WayFinder_dequeue_51 : decode zc_WayFinder_dequeue 51 = .ok (.getfield 54, 3) := by decide +kernel
theorem zd_WayFinder_dequeue_54 : decode zc_WayFinder_dequeue 54 = .ok (.iload_n 1, 1) := by decide +kernel
theorem zd_WayFinder_dequeue_55 : decode zc_WayFinder_dequeue 55 = .ok (.iconst 0, 1) := by decide +kernel
theorem zd_WayFinder_dequeue_56 : decode zc_WayFinder_dequeue 56 = .ok (.bastore, 1) := by decide +kernel
theorem zd_WayFinder_dequeue_57 : decode zc_WayFinder_dequeue 57 = .ok (.iload_n 1, 1) := by decide +kernel
theorem zd_WayFinder_dequeue_58 : decode zc_WayFinder_dequeue 58 = .ok (.ireturn, 1) := by decide +kernel
theorem zd_WayFinder_dequeue_0 : decode zc_WayFinder_dequeue 0 = .ok (.aload_n 0, 1) := by decide +kernel
theorem zd_WayFinder_dequeue_1 : decode zc_WayFinder_dequeue 1 = .ok (.getfield 51, 3) := by decide +kernel
theorem zd_WayFinder_dequeue_4 : decode zc_WayFinder_dequeue 4 = .ok (.aload_n 0, 1) := by decide +kernel
theorem zd_WayFinder_dequeue_5 : decode zc_WayFinder_dequeue 5 = .ok (.getfield 15, 3) := by decide +kernel
theorem zd_WayFinder_dequeue_8 : decode zc_WayFinder_dequeue 8 = .ok (.iaload, 1) := by decide +kernel
theorem zd_WayFinder_dequeue_9 : decode zc_WayFinder_dequeue 9 = .ok (.istore_n 1, 1) := by decide +kernel
theorem zd_WayFinder_dequeue_10 : decode zc_WayFinder_dequeue 10 = .ok (.aload_n 0, 1) := by decide +kernel
theorem zd_WayFinder_dequeue_11 : decode zc_WayFinder_dequeue 11 = .ok (.aload_n 0, 1) := by decide +kernel
theorem zd_WayFinder_dequeue_12 : decode zc_WayFinder_dequeue 12 = .ok (.getfield 15, 3) := by decide +kernel
theorem zd_WayFinder_dequeue_15 : decode zc_WayFinder_dequeue 15 = .ok (.iconst 1, 1) := by decide +kernel
theorem zd_WayFinder_dequeue_16 : decode zc_WayFinder_dequeue 16 = .ok (.iadd, 1) := by decide +kernel
theorem zd_WayFinder_dequeue_17 : decode zc_WayFinder_dequeue 17 = .ok (.aload_n 0, 1) := by decide +kernel
theorem zd_WayFinder_dequeue_18 : decode zc_WayFinder_dequeue 18 = .ok (.getfield 21, 3) := by decide +kernel
theorem zd_WayFinder_dequeue_21 : decode zc_WayFinder_dequeue 21 = .ok (.getfield 36, 3) := by decide +kernel
theorem zd_WayFinder_dequeue_24 : decode zc_WayFinder_dequeue 24 = .ok (.if_icmp .ge 12, 3) := by decide +kernel
theorem zd_WayFinder_dequeue_36 : decode zc_WayFinder_dequeue 36 = .ok (.iconst 0, 1) := by decide +kernel
theorem zd_WayFinder_dequeue_27 : decode zc_WayFinder_dequeue 27 = .ok (.aload_n 0, 1) := by decide +kernel
theorem zd_WayFinder_dequeue_28 : decode zc_WayFinder_dequeue 28 = .ok (.getfield 15, 3) := by decide +kernel
theorem zd_WayFinder_dequeue_31 : decode zc_WayFinder_dequeue 31 = .ok (.iconst 1, 1) := by decide +kernel
theorem zd_WayFinder_dequeue_32 : decode zc_WayFinder_dequeue 32 = .ok (.iadd, 1) := by decide +kernel
theorem zd_WayFinder_dequeue_33 : decode zc_WayFinder_dequeue 33 = .ok (.goto 4, 3) := by decide +kernel
theorem zd_WayFinder_trace_14 : decode zc_WayFinder_trace 14 = .ok (.aload_n 0, 1) := by decide +kernel
theorem zd_WayFinder_trace_15 : decode zc_WayFinder_trace 15 = .ok (.getfield 9, 3) := by decide +kernel
theorem zd_WayFinder_trace_18 : decode zc_WayFinder_trace 18 = .ok (.aload_n 0, 1) := by decide +kernel
theorem zd_WayFinder_trace_19 : decode zc_WayFinder_trace 19 = .ok (.getfield 21, 3) := by decide +kernel
theorem zd_WayFinder_trace_22 : decode zc_WayFinder_trace 22 = .ok (.getfield 36, 3) := by decide +kernel
theorem zd_WayFinder_trace_25 : decode zc_WayFinder_trace 25 = .ok (.if_icmp .ge 37, 3) := by decide +kernel
theorem zd_WayFinder_trace_28 : decode zc_WayFinder_trace 28 = .ok (.iload_n 3, 1) := by decide +kernel
theorem zd_WayFinder_trace_29 : decode zc_WayFinder_trace 29 = .ok (.iload_n 1, 1) := by decide +kernel
theorem zd_WayFinder_trace_30 : decode zc_WayFinder_trace 30 = .ok (.if_icmp .eq 32, 3) := by decide +kernel
theorem zd_WayFinder_trace_33 : decode zc_WayFinder_trace 33 = .ok (.aload_n 0, 1) := by decide +kernel
theorem zd_WayFinder_trace_34 : decode zc_WayFinder_trace 34 = .ok (.iload_n 3, 1) := by decide +kernel
theorem zd_WayFinder_trace_35 : decode zc_WayFinder_trace 35 = .ok (.invokevirtual 111, 3) := by decide +kernel
theorem zd_WayFinder_trace_38 : decode zc_WayFinder_trace 38 = .ok (.istore_n 3, 1) := by decide +kernel
theorem zd_WayFinder_trace_39 : decode zc_WayFinder_trace 39 = .ok (.aload_n 0, 1) := by decide +kernel
theorem zd_WayFinder_trace_40 : decode zc_WayFinder_trace 40 = .ok (.getfield 41, 3) := by decide +kernel
theorem zd_WayFinder_trace_43 : decode zc_WayFinder_trace 43 = .ok (.aload_n 0, 1) := by decide +kernel
theorem zd_WayFinder_trace_44 : decode zc_WayFinder_trace 44 = .ok (.getfield 9, 3) := by decide +kernel
theorem zd_WayFinder_trace_47 : decode zc_WayFinder_trace 47 = .ok (.iload_n 3, 1) := by decide +kernel
theorem zd_WayFinder_trace_48 : decode zc_WayFinder_trace 48 = .ok (.iastore, 1) := by decide +kernel
theorem zd_WayFinder_trace_49 : decode zc_WayFinder_trace 49 = .ok (.aload_n 0, 1) := by decide +kernel
theorem zd_WayFinder_trace_50 : decode zc_WayFinder_trace 50 = .ok (.dup, 1) := by decide +kernel
theorem zd_WayFinder_trace_51 : decode zc_WayFinder_trace 51 = .ok (.getfield 9, 3) := by decide +kernel
theorem zd_WayFinder_trace_54 : decode zc_WayFinder_trace 54 = .ok (.iconst 1, 1) := by decide +kernel
theorem zd_WayFinder_trace_55 : decode zc_WayFinder_trace 55 = .ok (.iadd, 1) := by decide +kernel
theorem zd_WayFinder_trace_56 : decode zc_WayFinder_trace 56 = .ok (.putfield 9, 3) := by decide +kernel
theorem zd_WayFinder_trace_59 : decode zc_WayFinder_trace 59 = .ok (.goto (-45), 3) := by decide +kernel
theorem zd_WayFinder_trace_62 : decode zc_WayFinder_trace 62 = .ok (.return_, 1) := by decide +kernel
theorem zd_WayFinder_trace_0 : decode zc_WayFinder_trace 0 = .ok (.iload_n 2, 1) := by decide +kernel
theorem zd_WayFinder_trace_1 : decode zc_WayFinder_trace 1 = .ok (.istore_n 3, 1) := by decide +kernel
theorem zd_WayFinder_trace_2 : decode zc_WayFinder_trace 2 = .ok (.aload_n 0, 1) := by decide +kernel
theorem zd_WayFinder_trace_3 : decode zc_WayFinder_trace 3 = .ok (.getfield 41, 3) := by decide +kernel
theorem zd_WayFinder_trace_6 : decode zc_WayFinder_trace 6 = .ok (.iconst 0, 1) := by decide +kernel
theorem zd_WayFinder_trace_7 : decode zc_WayFinder_trace 7 = .ok (.iload_n 3, 1) := by decide +kernel
theorem zd_WayFinder_trace_8 : decode zc_WayFinder_trace 8 = .ok (.iastore, 1) := by decide +kernel
theorem zd_WayFinder_trace_9 : decode zc_WayFinder_trace 9 = .ok (.aload_n 0, 1) := by decide +kernel
theorem zd_WayFinder_trace_10 : decode zc_WayFinder_trace 10 = .ok (.iconst 1, 1) := by decide +kernel
theorem zd_WayFinder_trace_11 : decode zc_WayFinder_trace 11 = .ok (.putfield 9, 3) := by decide +kernel
theorem zd_WayFinder_predecessor_2 : decode zc_WayFinder_predecessor 2 = .ok (.iload_n 2, 1) := by decide +kernel
theorem zd_WayFinder_predecessor_3 : decode zc_WayFinder_predecessor 3 = .ok (.iconst 5, 1) := by decide +kernel
theorem zd_WayFinder_predecessor_4 : decode zc_WayFinder_predecessor 4 = .ok (.if_icmp .ge 54, 3) := by decide +kernel
theorem zd_WayFinder_predecessor_58 : decode zc_WayFinder_predecessor 58 = .ok (.iload_n 1, 1) := by decide +kernel
theorem zd_WayFinder_predecessor_59 : decode zc_WayFinder_predecessor 59 = .ok (.ireturn, 1) := by decide +kernel
theorem zd_WayFinder_predecessor_7 : decode zc_WayFinder_predecessor 7 = .ok (.aload_n 0, 1) := by decide +kernel
theorem zd_WayFinder_predecessor_8 : decode zc_WayFinder_predecessor 8 = .ok (.getfield 21, 3) := by decide +kernel
theorem zd_WayFinder_predecessor_11 : decode zc_WayFinder_predecessor 11 = .ok (.iload_n 1, 1) := by decide +kernel
theorem zd_WayFinder_predecessor_12 : decode zc_WayFinder_predecessor 12 = .ok (.iload_n 2, 1) := by decide +kernel
theorem zd_WayFinder_predecessor_13 : decode zc_WayFinder_predecessor 13 = .ok (.invokevirtual 104, 3) := by decide +kernel
theorem zd_WayFinder_predecessor_16 : decode zc_WayFinder_predecessor 16 = .ok (.istore_n 3, 1) := by decide +kernel
theorem zd_WayFinder_predecessor_17 : decode zc_WayFinder_predecessor 17 = .ok (.iload_n 3, 1) := by decide +kernel
theorem zd_WayFinder_predecessor_18 : decode zc_WayFinder_predecessor 18 = .ok (.iconst (-1), 1) := by decide +kernel
theorem zd_WayFinder_predecessor_19 : decode zc_WayFinder_predecessor 19 = .ok (.if_icmp .eq 33, 3) := by decide +kernel
theorem zd_WayFinder_predecessor_22 : decode zc_WayFinder_predecessor 22 = .ok (.aload_n 0, 1) := by decide +kernel
theorem zd_WayFinder_predecessor_23 : decode zc_WayFinder_predecessor 23 = .ok (.getfield 48, 3) := by decide +kernel
theorem zd_WayFinder_predecessor_26 : decode zc_WayFinder_predecessor 26 = .ok (.iload_n 3, 1) := by decide +kernel
theorem zd_WayFinder_predecessor_27 : decode zc_WayFinder_predecessor 27 = .ok (.iaload, 1) := by decide +kernel
theorem zd_WayFinder_predecessor_28 : decode zc_WayFinder_predecessor 28 = .ok (.aload_n 0, 1) := by decide +kernel
theorem zd_WayFinder_predecessor_29 : decode zc_WayFinder_predecessor 29 = .ok (.iload_n 2, 1) := by decide +kernel
theorem zd_WayFinder_predecessor_30 : decode zc_WayFinder_predecessor 30 = .ok (.invokevirtual 107, 3) := by decide +kernel
theorem zd_WayFinder_predecessor_33 : decode zc_WayFinder_predecessor 33 = .ok (.iadd, 1) := by decide +kernel
theorem zd_WayFinder_predecessor_34 : decode zc_WayFinder_predecessor 34 = .ok (.aload_n 0, 1) := by decide +kernel
theorem zd_WayFinder_predecessor_35 : decode zc_WayFinder_predecessor 35 = .ok (.getfield 45, 3) := by decide +kernel
theorem zd_WayFinder_predecessor_38 : decode zc_WayFinder_predecessor 38 = .ok (.iload_n 1, 1) := by decide +kernel
theorem zd_WayFinder_predecessor_39 : decode zc_WayFinder_predecessor 39 = .ok (.iaload, 1) := by decide +kernel
theorem zd_WayFinder_predecessor_40 : decode zc_WayFinder_predecessor 40 = .ok (.iadd, 1) := by decide +kernel
theorem zd_WayFinder_predecessor_41 : decode zc_WayFinder_predecessor 41 = .ok (.aload_n 0, 1) := by decide +kernel
theorem zd_WayFinder_predecessor_42 : decode zc_WayFinder_predecessor 42 = .ok (.getfield 48, 3) := by decide +kernel
theorem zd_WayFinder_predecessor_45 : decode zc_WayFinder_predecessor 45 = .ok (.iload_n 1, 1) := by decide +kernel
theorem zd_WayFinder_predecessor_46 : decode zc_WayFinder_predecessor 46 = .ok (.iaload, 1) := by decide +kernel
theorem zd_WayFinder_predecessor_47 : decode zc_WayFinder_predecessor 47 = .ok (.if_icmp .ne 5, 3) := by decide +kernel
theorem zd_WayFinder_predecessor_50 : decode zc_WayFinder_predecessor 50 = .ok (.iload_n 3, 1) := by decide +kernel
theorem zd_WayFinder_predecessor_51 : decode zc_WayFinder_predecessor 51 = .ok (.ireturn, 1) := by decide +kernel
theorem zd_WayFinder_predecessor_52 : decode zc_WayFinder_predecessor 52 = .ok (.iinc 2 1, 3) := by decide +kernel
theorem zd_WayFinder_predecessor_55 : decode zc_WayFinder_predecessor 55 = .ok (.goto (-53), 3) := by decide +kernel
theorem zd_WayFinder_predecessor_0 : decode zc_WayFinder_predecessor 0 = .ok (.iconst 0, 1) := by decide +kernel
theorem zd_WayFinder_predecessor_1 : decode zc_WayFinder_predecessor 1 = .ok (.istore_n 2, 1) := by decide +kernel

theorem zd_WayFinder_enqueue_26 : decode zc_WayFinder_enqueue 26 = .ok (.aload_n 0, 1) := by decide +kernel
theorem zd_WayFinder_enqueue_27 : decode zc_WayFinder_enqueue 27 = .ok (.getfield 51, 3) := by decide +kernel
theorem zd_WayFinder_enqueue_30 : decode zc_WayFinder_enqueue 30 = .ok (.iload_n 2, 1) := by decide +kernel
theorem zd_WayFinder_enqueue_31 : decode zc_WayFinder_enqueue 31 = .ok (.aload_n 0, 1) := by decide +kernel
theorem zd_WayFinder_enqueue_32 : decode zc_WayFinder_enqueue 32 = .ok (.getfield 21, 3) := by decide +kernel
theorem zd_WayFinder_enqueue_35 : decode zc_WayFinder_enqueue 35 = .ok (.getfield 36, 3) := by decide +kernel
theorem zd_WayFinder_enqueue_38 : decode zc_WayFinder_enqueue 38 = .ok (.if_icmp .ge 7, 3) := by decide +kernel
theorem zd_WayFinder_enqueue_45 : decode zc_WayFinder_enqueue 45 = .ok (.iload_n 2, 1) := by decide +kernel
theorem zd_WayFinder_enqueue_46 : decode zc_WayFinder_enqueue 46 = .ok (.aload_n 0, 1) := by decide +kernel
theorem zd_WayFinder_enqueue_47 : decode zc_WayFinder_enqueue 47 = .ok (.getfield 21, 3) := by decide +kernel
theorem zd_WayFinder_enqueue_50 : decode zc_WayFinder_enqueue 50 = .ok (.getfield 36, 3) := by decide +kernel
theorem zd_WayFinder_enqueue_53 : decode zc_WayFinder_enqueue 53 = .ok (.isub, 1) := by decide +kernel
theorem zd_WayFinder_enqueue_41 : decode zc_WayFinder_enqueue 41 = .ok (.iload_n 2, 1) := by decide +kernel
theorem zd_WayFinder_enqueue_42 : decode zc_WayFinder_enqueue 42 = .ok (.goto 12, 3) := by decide +kernel
theorem zd_WayFinder_dequeue_37 : decode zc_WayFinder_dequeue 37 = .ok (.putfield 15, 3) := by decide +kernel
theorem zd_WayFinder_dequeue_40 : decode zc_WayFinder_dequeue 40 = .ok (.aload_n 0, 1) := by decide +kernel
theorem zd_WayFinder_dequeue_41 : decode zc_WayFinder_dequeue 41 = .ok (.dup, 1) := by decide +kernel
theorem zd_WayFinder_dequeue_42 : decode zc_WayFinder_dequeue 42 = .ok (.getfield 18, 3) := by decide +kernel
theorem zd_WayFinder_dequeue_45 : decode zc_WayFinder_dequeue 45 = .ok (.iconst 1, 1) := by decide +kernel
theorem zd_WayFinder_dequeue_46 : decode zc_WayFinder_dequeue 46 = .ok (.isub, 1) := by decide +kernel
theorem zd_WayFinder_dequeue_47 : decode zc_WayFinder_dequeue 47 = .ok (.putfield 18, 3) := by decide +kernel
theorem zd_WayFinder_dequeue_50 : decode zc_WayFinder_dequeue 50 = .ok (.aload_n 0, 1) := by decide +kernel
theorem zd_WayFinder_dequeue_51 : decode zc_WayFinder_dequeue 51 = .ok (.getfield 54, 3) := by decide +kernel
theorem zd_WayFinder_dequeue_54 : decode zc_WayFinder_dequeue 54 = .ok (.iload_n 1, 1) := by decide +kernel
theorem zd_WayFinder_dequeue_55 : decode zc_WayFinder_dequeue 55 = .ok (.iconst 0, 1) := by decide +kernel
theorem zd_WayFinder_dequeue_56 : decode zc_WayFinder_dequeue 56 = .ok (.bastore, 1) := by decide +kernel
theorem zd_WayFinder_dequeue_57 : decode zc_WayFinder_dequeue 57 = .ok (.iload_n 1, 1) := by decide +kernel
theorem zd_WayFinder_dequeue_58 : decode zc_WayFinder_dequeue 58 = .ok (.ireturn, 1) := by decide +kernel
theorem zd_WayFinder_dequeue_0 : decode zc_WayFinder_dequeue 0 = .ok (.aload_n 0, 1) := by decide +kernel
theorem zd_WayFinder_dequeue_1 : decode zc_WayFinder_dequeue 1 = .ok (.getfield 51, 3) := by decide +kernel
theorem zd_WayFinder_dequeue_4 : decode zc_WayFinder_dequeue 4 = .ok (.aload_n 0, 1) := by decide +kernel
theorem zd_WayFinder_dequeue_5 : decode zc_WayFinder_dequeue 5 = .ok (.getfield 15, 3) := by decide +kernel
theorem zd_WayFinder_dequeue_8 : decode zc_WayFinder_dequeue 8 = .ok (.iaload, 1) := by decide +kernel
theorem zd_WayFinder_dequeue_9 : decode zc_WayFinder_dequeue 9 = .ok (.istore_n 1, 1) := by decide +kernel
theorem zd_WayFinder_dequeue_10 : decode zc_WayFinder_dequeue 10 = .ok (.aload_n 0, 1) := by decide +kernel
theorem zd_WayFinder_dequeue_11 : decode zc_WayFinder_dequeue 11 = .ok (.aload_n 0, 1) := by decide +kernel
theorem zd_WayFinder_dequeue_12 : decode zc_WayFinder_dequeue 12 = .ok (.getfield 15, 3) := by decide +kernel
theorem zd_WayFinder_dequeue_15 : decode zc_WayFinder_dequeue 15 = .ok (.iconst 1, 1) := by decide +kernel
theorem zd_WayFinder_dequeue_16 : decode zc_WayFinder_dequeue 16 = .ok (.iadd, 1) := by decide +kernel
theorem zd_WayFinder_dequeue_17 : decode zc_WayFinder_dequeue 17 = .ok (.aload_n 0, 1) := by decide +kernel
theorem zd_WayFinder_dequeue_18 : decode zc_WayFinder_dequeue 18 = .ok (.getfield 21, 3) := by decide +kernel
theorem zd_WayFinder_dequeue_21 : decode zc_WayFinder_dequeue 21 = .ok (.getfield 36, 3) := by decide +kernel
theorem zd_WayFinder_dequeue_24 : decode zc_WayFinder_dequeue 24 = .ok (.if_icmp .ge 12, 3) := by decide +kernel
theorem zd_WayFinder_dequeue_36 : decode zc_WayFinder_dequeue 36 = .ok (.iconst 0, 1) := by decide +kernel
theorem zd_WayFinder_dequeue_27 : decode zc_WayFinder_dequeue 27 = .ok (.aload_n 0, 1) := by decide +kernel
theorem zd_WayFinder_dequeue_28 : decode zc_WayFinder_dequeue 28 = .ok (.getfield 15, 3) := by decide +kernel
theorem zd_WayFinder_dequeue_31 : decode zc_WayFinder_dequeue 31 = .ok (.iconst 1, 1) := by decide +kernel
theorem zd_WayFinder_dequeue_32 : decode zc_WayFinder_dequeue 32 = .ok (.iadd, 1) := by decide +kernel
theorem zd_WayFinder_dequeue_33 : decode zc_WayFinder_dequeue 33 = .ok (.goto 4, 3) := by decide +kernel
theorem zd_WayFinder_trace_14 : decode zc_WayFinder_trace 14 = .ok (.aload_n 0, 1) := by decide +kernel
theorem zd_WayFinder_trace_15 : decode zc_WayFinder_trace 15 = .ok (.getfield 9, 3) := by decide +kernel
theorem zd_WayFinder_trace_18 : decode zc_WayFinder_trace 18 = .ok (.aload_n 0, 1) := by decide +kernel
theorem zd_WayFinder_trace_19 : decode zc_WayFinder_trace 19 = .ok (.getfield 21, 3) := by decide +kernel
theorem zd_WayFinder_trace_22 : decode zc_WayFinder_trace 22 = .ok (.getfield 36, 3) := by decide +kernel
theorem zd_WayFinder_trace_25 : decode zc_WayFinder_trace 25 = .ok (.if_icmp .ge 37, 3) := by decide +kernel
theorem zd_WayFinder_trace_28 : decode zc_WayFinder_trace 28 = .ok (.iload_n 3, 1) := by decide +kernel
theorem zd_WayFinder_trace_29 : decode zc_WayFinder_trace 29 = .ok (.iload_n 1, 1) := by decide +kernel
theorem zd_WayFinder_trace_30 : decode zc_WayFinder_trace 30 = .ok (.if_icmp .eq 32, 3) := by decide +kernel
theorem zd_WayFinder_trace_33 : decode zc_WayFinder_trace 33 = .ok (.aload_n 0, 1) := by decide +kernel
theorem zd_WayFinder_trace_34 : decode zc_WayFinder_trace 34 = .ok (.iload_n 3, 1) := by decide +kernel
theorem zd_WayFinder_trace_35 : decode zc_WayFinder_trace 35 = .ok (.invokevirtual 111, 3) := by decide +kernel
theorem zd_WayFinder_trace_38 : decode zc_WayFinder_trace 38 = .ok (.istore_n 3, 1) := by decide +kernel
theorem zd_WayFinder_trace_39 : decode zc_WayFinder_trace 39 = .ok (.aload_n 0, 1) := by decide +kernel
theorem zd_WayFinder_trace_40 : decode zc_WayFinder_trace 40 = .ok (.getfield 41, 3) := by decide +kernel
theorem zd_WayFinder_trace_43 : decode zc_WayFinder_trace 43 = .ok (.aload_n 0, 1) := by decide +kernel
theorem zd_WayFinder_trace_44 : decode zc_WayFinder_trace 44 = .ok (.getfield 9, 3) := by decide +kernel
theorem zd_WayFinder_trace_47 : decode zc_WayFinder_trace 47 = .ok (.iload_n 3, 1) := by decide +kernel
theorem zd_WayFinder_trace_48 : decode zc_WayFinder_trace 48 = .ok (.iastore, 1) := by decide +kernel
theorem zd_WayFinder_trace_49 : decode zc_WayFinder_trace 49 = .ok (.aload_n 0, 1) := by decide +kernel
theorem zd_WayFinder_trace_50 : decode zc_WayFinder_trace 50 = .ok (.dup, 1) := by decide +kernel
theorem zd_WayFinder_trace_51 : decode zc_WayFinder_trace 51 = .ok (.getfield 9, 3) := by decide +kernel
theorem zd_WayFinder_trace_54 : decode zc_WayFinder_trace 54 = .ok (.iconst 1, 1) := by decide +kernel
theorem zd_WayFinder_trace_55 : decode zc_WayFinder_trace 55 = .ok (.iadd, 1) := by decide +kernel
theorem zd_WayFinder_trace_56 : decode zc_WayFinder_trace 56 = .ok (.putfield 9, 3) := by decide +kernel
theorem zd_WayFinder_trace_59 : decode zc_WayFinder_trace 59 = .ok (.goto (-45), 3) := by decide +kernel
theorem zd_WayFinder_trace_62 : decode zc_WayFinder_trace 62 = .ok (.return_, 1) := by decide +kernel
theorem zd_WayFinder_trace_0 : decode zc_WayFinder_trace 0 = .ok (.iload_n 2, 1) := by decide +kernel
theorem zd_WayFinder_trace_1 : decode zc_WayFinder_trace 1 = .ok (.istore_n 3, 1) := by decide +kernel
theorem zd_WayFinder_trace_2 : decode zc_WayFinder_trace 2 = .ok (.aload_n 0, 1) := by decide +kernel
theorem zd_WayFinder_trace_3 : decode zc_WayFinder_trace 3 = .ok (.getfield 41, 3) := by decide +kernel
theorem zd_WayFinder_trace_6 : decode zc_WayFinder_trace 6 = .ok (.iconst 0, 1) := by decide +kernel
theorem zd_WayFinder_trace_7 : decode zc_WayFinder_trace 7 = .ok (.iload_n 3, 1) := by decide +kernel
theorem zd_WayFinder_trace_8 : decode zc_WayFinder_trace 8 = .ok (.iastore, 1) := by decide +kernel
theorem zd_WayFinder_trace_9 : decode zc_WayFinder_trace 9 = .ok (.aload_n 0, 1) := by decide +kernel
theorem zd_WayFinder_trace_10 : decode zc_WayFinder_trace 10 = .ok (.iconst 1, 1) := by decide +kernel
theorem zd_WayFinder_trace_11 : decode zc_WayFinder_trace 11 = .ok (.putfield 9, 3) := by decide +kernel
theorem zd_WayFinder_predecessor_2 : decode zc_WayFinder_predecessor 2 = .ok (.iload_n 2, 1) := by decide +kernel
theorem zd_WayFinder_predecessor_3 : decode zc_WayFinder_predecessor 3 = .ok (.iconst 5, 1) := by decide +kernel
theorem zd_WayFinder_predecessor_4 : decode zc_WayFinder_predecessor 4 = .ok (.if_icmp .ge 54, 3) := by decide +kernel
theorem zd_WayFinder_predecessor_58 : decode zc_WayFinder_predecessor 58 = .ok (.iload_n 1, 1) := by decide +kernel
theorem zd_WayFinder_predecessor_59 : decode zc_WayFinder_predecessor 59 = .ok (.ireturn, 1) := by decide +kernel
theorem zd_WayFinder_predecessor_7 : decode zc_WayFinder_predecessor 7 = .ok (.aload_n 0, 1) := by decide +kernel
theorem zd_WayFinder_predecessor_8 : decode zc_WayFinder_predecessor 8 = .ok (.getfield 21, 3) := by decide +kernel
theorem zd_WayFinder_predecessor_11 : decode zc_WayFinder_predecessor 11 = .ok (.iload_n 1, 1) := by decide +kernel
theorem zd_WayFinder_predecessor_12 : decode zc_WayFinder_predecessor 12 = .ok (.iload_n 2, 1) := by decide +kernel
theorem zd_WayFinder_predecessor_13 : decode zc_WayFinder_predecessor 13 = .ok (.invokevirtual 104, 3) := by decide +kernel
theorem zd_WayFinder_predecessor_16 : decode zc_WayFinder_predecessor 16 = .ok (.istore_n 3, 1) := by decide +kernel
theorem zd_WayFinder_predecessor_17 : decode zc_WayFinder_predecessor 17 = .ok (.iload_n 3, 1) := by decide +kernel
theorem zd_WayFinder_predecessor_18 : decode zc_WayFinder_predecessor 18 = .ok (.iconst (-1), 1) := by decide +kernel
theorem zd_WayFinder_predecessor_19 : decode zc_WayFinder_predecessor 19 = .ok (.if_icmp .eq 33, 3) := by decide +kernel
theorem zd_WayFinder_predecessor_22 : decode zc_WayFinder_predecessor 22 = .ok (.aload_n 0, 1) := by decide +kernel
theorem zd_WayFinder_predecessor_23 : decode zc_WayFinder_predecessor 23 = .ok (.getfield 48, 3) := by decide +kernel
theorem zd_WayFinder_predecessor_26 : decode zc_WayFinder_predecessor 26 = .ok (.iload_n 3, 1) := by decide +kernel
theorem zd_WayFinder_predecessor_27 : decode zc_WayFinder_predecessor 27 = .ok (.iaload, 1) := by decide +kernel
theorem zd_WayFinder_predecessor_28 : decode zc_WayFinder_predecessor 28 = .ok (.aload_n 0, 1) := by decide +kernel
theorem zd_WayFinder_predecessor_29 : decode zc_WayFinder_predecessor 29 = .ok (.iload_n 2, 1) := by decide +kernel
theorem zd_WayFinder_predecessor_30 : decode zc_WayFinder_predecessor 30 = .ok (.invokevirtual 107, 3) := by decide +kernel
theorem zd_WayFinder_predecessor_33 : decode zc_WayFinder_predecessor 33 = .ok (.iadd, 1) := by decide +kernel
theorem zd_WayFinder_predecessor_34 : decode zc_WayFinder_predecessor 34 = .ok (.aload_n 0, 1) := by decide +kernel
theorem zd_WayFinder_predecessor_35 : decode zc_WayFinder_predecessor 35 = .ok (.getfield 45, 3) := by decide +kernel
theorem zd_WayFinder_predecessor_38 : decode zc_WayFinder_predecessor 38 = .ok (.iload_n 1, 1) := by decide +kernel
theorem zd_WayFinder_predecessor_39 : decode zc_WayFinder_predecessor 39 = .ok (.iaload, 1) := by decide +kernel
theorem zd_WayFinder_predecessor_40 : decode zc_WayFinder_predecessor 40 = .ok (.iadd, 1) := by decide +kernel
theorem zd_WayFinder_predecessor_41 : decode zc_WayFinder_predecessor 41 = .ok (.aload_n 0, 1) := by decide +kernel
theorem zd_WayFinder_predecessor_42 : decode zc_WayFinder_predecessor 42 = .ok (.getfield 48, 3) := by decide +kernel
theorem zd_WayFinder_predecessor_45 : decode zc_WayFinder_predecessor 45 = .ok (.iload_n 1, 1) := by decide +kernel
theorem zd_WayFinder_predecessor_46 : decode zc_WayFinder_predecessor 46 = .ok (.iaload, 1) := by decide +kernel
theorem zd_WayFinder_predecessor_47 : decode zc_WayFinder_predecessor 47 = .ok (.if_icmp .ne 5, 3) := by decide +kernel
theorem zd_WayFinder_predecessor_50 : decode zc_WayFinder_predecessor 50 = .ok (.iload_n 3, 1) := by decide +kernel
theorem zd_WayFinder_predecessor_51 : decode zc_WayFinder_predecessor 51 = .ok (.ireturn, 1) := by decide +kernel
theorem zd_WayFinder_predecessor_52 : decode zc_WayFinder_predecessor 52 = .ok (.iinc 2 1, 3) := by decide +kernel
theorem zd_WayFinder_predecessor_55 : decode zc_WayFinder_predecessor 55 = .ok (.goto (-53), 3) := by decide +kernel
theorem zd_WayFinder_predecessor_0 : decode zc_WayFinder_predecessor 0 = .ok (.iconst 0, 1) := by decide +kernel
theorem zd_WayFinder_predecessor_1 : decode zc_WayFinder_predecessor 1 = .ok (.istore_n 2, 1) := by decide +kernel
theorem zd_La_h_block_0 : decode zc_La_h_block 0 = .ok (.aload 4, 2) := by decide +kernel
theorem zd_La_h_block_2 : decode zc_La_h_block 2 = .ok (.iconst 0, 1) := by decide +kernel
theorem zd_La_h_block_3 : decode zc_La_h_block 3 = .ok (.aload_n 0, 1) := by decide +kernel
theorem zd_La_h_block_4 : decode zc_La_h_block 4 = .ok (.iload_n 1, 1) := by decide +kernel
theorem zd_La_h_block_5 : decode zc_La_h_block 5 = .ok (.iload_n 2, 1) := by decide +kernel
theorem zd_La_h_block_6 : decode zc_La_h_block 6 = .ok (.iload_n 3, 1) := by decide +kernel
theorem zd_La_h_block_7 : decode zc_La_h_block 7 = .ok (.invokevirtual 7, 3) := by decide +kernel
theorem zd_La_h_block_10 : decode zc_La_h_block 10 = .ok (.ifCond .eq 7, 3) := by decide +kernel
theorem zd_La_h_block_17 : decode zc_La_h_block 17 = .ok (.lconst 0, 1) := by decide +kernel
theorem zd_La_h_block_18 : decode zc_La_h_block 18 = .ok (.lastore, 1) := by decide +kernel
theorem zd_La_h_block_19 : decode zc_La_h_block 19 = .ok (.goto 11, 3) := by decide +kernel
theorem zd_La_h_block_30 : decode zc_La_h_block 30 = .ok (.iconst 0, 1) := by decide +kernel
theorem zd_La_h_block_31 : decode zc_La_h_block 31 = .ok (.ireturn, 1) := by decide +kernel
theorem zd_La_h_block_13 : decode zc_La_h_block 13 = .ok (.lconst 1, 1) := by decide +kernel
theorem zd_La_h_block_14 : decode zc_La_h_block 14 = .ok (.goto 4, 3) := by decide +kernel
theorem zd_La_h_block_22 : decode zc_La_h_block 22 = .ok (.astore 5, 2) := by decide +kernel
theorem zd_La_h_block_24 : decode zc_La_h_block 24 = .ok (.iconst 1, 1) := by decide +kernel
theorem zd_La_h_block_25 : decode zc_La_h_block 25 = .ok (.ireturn, 1) := by decide +kernel
theorem zd_La_h_block_26 : decode zc_La_h_block 26 = .ok (.astore 5, 2) := by decide +kernel
theorem zd_La_h_block_28 : decode zc_La_h_block 28 = .ok (.iconst 2, 1) := by decide +kernel
theorem zd_La_h_block_29 : decode zc_La_h_block 29 = .ok (.ireturn, 1) := by decide +kernel
theorem zd_La_h_net_0 : decode zc_La_h_net 0 = .ok (.aload 7, 2) := by decide +kernel
theorem zd_La_h_net_2 : decode zc_La_h_net 2 = .ok (.iconst 0, 1) := by decide +kernel
theorem zd_La_h_net_3 : decode zc_La_h_net 3 = .ok (.aload_n 0, 1) := by decide +kernel
theorem zd_La_h_net_4 : decode zc_La_h_net 4 = .ok (.iload_n 1, 1) := by decide +kernel
theorem zd_La_h_net_5 : decode zc_La_h_net 5 = .ok (.iload_n 2, 1) := by decide +kernel
theorem zd_La_h_net_6 : decode zc_La_h_net 6 = .ok (.iload_n 3, 1) := by decide +kernel
theorem zd_La_h_net_7 : decode zc_La_h_net 7 = .ok (.iload 4, 2) := by decide +kernel
theorem zd_La_h_net_9 : decode zc_La_h_net 9 = .ok (.iload 5, 2) := by decide +kernel
theorem zd_La_h_net_11 : decode zc_La_h_net 11 = .ok (.iload 6, 2) := by decide +kernel
theorem zd_La_h_net_13 : decode zc_La_h_net 13 = .ok (.invokevirtual 17, 3) := by decide +kernel
theorem zd_La_h_net_16 : decode zc_La_h_net 16 = .ok (.i2l, 1) := by decide +kernel
theorem zd_La_h_net_17 : decode zc_La_h_net 17 = .ok (.lastore, 1) := by decide +kernel
theorem zd_La_h_net_18 : decode zc_La_h_net 18 = .ok (.goto 15, 3) := by decide +kernel
theorem zd_La_h_net_33 : decode zc_La_h_net 33 = .ok (.iconst 0, 1) := by decide +kernel
theorem zd_La_h_net_34 : decode zc_La_h_net 34 = .ok (.ireturn, 1) := by decide +kernel
theorem zd_La_h_net_21 : decode zc_La_h_net 21 = .ok (.astore 8, 2) := by decide +kernel
theorem zd_La_h_net_23 : decode zc_La_h_net 23 = .ok (.iconst 1, 1) := by decide +kernel
theorem zd_La_h_net_24 : decode zc_La_h_net 24 = .ok (.ireturn, 1) := by decide +kernel
theorem zd_La_h_net_25 : decode zc_La_h_net 25 = .ok (.astore 8, 2) := by decide +kernel
theorem zd_La_h_net_27 : decode zc_La_h_net 27 = .ok (.iconst 2, 1) := by decide +kernel
theorem zd_La_h_net_28 : decode zc_La_h_net 28 = .ok (.ireturn, 1) := by decide +kernel
theorem zd_La_h_net_29 : decode zc_La_h_net 29 = .ok (.astore 8, 2) := by decide +kernel
theorem zd_La_h_net_31 : decode zc_La_h_net 31 = .ok (.iconst 3, 1) := by decide +kernel
theorem zd_La_h_net_32 : decode zc_La_h_net 32 = .ok (.ireturn, 1) := by decide +kernel
theorem zd_La_h_route_0 : decode zc_La_h_route 0 = .ok (.aload_n 2, 1) := by decide +kernel
theorem zd_La_h_route_1 : decode zc_La_h_route 1 = .ok (.iconst 0, 1) := by decide +kernel
theorem zd_La_h_route_2 : decode zc_La_h_route 2 = .ok (.aload_n 0, 1) := by decide +kernel
theorem zd_La_h_route_3 : decode zc_La_h_route 3 = .ok (.iload_n 1, 1) := by decide +kernel
theorem zd_La_h_route_4 : decode zc_La_h_route 4 = .ok (.invokevirtual 23, 3) := by decide +kernel
theorem zd_La_h_route_7 : decode zc_La_h_route 7 = .ok (.i2l, 1) := by decide +kernel
theorem zd_La_h_route_8 : decode zc_La_h_route 8 = .ok (.lastore, 1) := by decide +kernel
theorem zd_La_h_route_9 : decode zc_La_h_route 9 = .ok (.goto 6, 3) := by decide +kernel
theorem zd_La_h_route_15 : decode zc_La_h_route 15 = .ok (.iconst 0, 1) := by decide +kernel
theorem zd_La_h_route_16 : decode zc_La_h_route 16 = .ok (.ireturn, 1) := by decide +kernel
theorem zd_La_h_route_12 : decode zc_La_h_route 12 = .ok (.astore_n 3, 1) := by decide +kernel
theorem zd_La_h_route_13 : decode zc_La_h_route 13 = .ok (.iconst 1, 1) := by decide +kernel
theorem zd_La_h_route_14 : decode zc_La_h_route 14 = .ok (.ireturn, 1) := by decide +kernel
theorem zd_La_h_push_0 : decode zc_La_h_push 0 = .ok (.aload_n 2, 1) := by decide +kernel
theorem zd_La_h_push_1 : decode zc_La_h_push 1 = .ok (.iconst 0, 1) := by decide +kernel
theorem zd_La_h_push_2 : decode zc_La_h_push 2 = .ok (.aload_n 0, 1) := by decide +kernel
theorem zd_La_h_push_3 : decode zc_La_h_push 3 = .ok (.iload_n 1, 1) := by decide +kernel
theorem zd_La_h_push_4 : decode zc_La_h_push 4 = .ok (.invokevirtual 27, 3) := by decide +kernel
theorem zd_La_h_push_7 : decode zc_La_h_push 7 = .ok (.i2l, 1) := by decide +kernel
theorem zd_La_h_push_8 : decode zc_La_h_push 8 = .ok (.lastore, 1) := by decide +kernel
theorem zd_La_h_push_9 : decode zc_La_h_push 9 = .ok (.goto 6, 3) := by decide +kernel
theorem zd_La_h_push_15 : decode zc_La_h_push 15 = .ok (.iconst 0, 1) := by decide +kernel
theorem zd_La_h_push_16 : decode zc_La_h_push 16 = .ok (.ireturn, 1) := by decide +kernel
theorem zd_La_h_push_12 : decode zc_La_h_push 12 = .ok (.astore_n 3, 1) := by decide +kernel
theorem zd_La_h_push_13 : decode zc_La_h_push 13 = .ok (.iconst 1, 1) := by decide +kernel
theorem zd_La_h_push_14 : decode zc_La_h_push 14 = .ok (.ireturn, 1) := by decide +kernel
theorem zd_La_h_all_0 : decode zc_La_h_all 0 = .ok (.aload_n 3, 1) := by decide +kernel
theorem zd_La_h_all_1 : decode zc_La_h_all 1 = .ok (.iconst 0, 1) := by decide +kernel
theorem zd_La_h_all_2 : decode zc_La_h_all 2 = .ok (.aload_n 0, 1) := by decide +kernel
theorem zd_La_h_all_3 : decode zc_La_h_all 3 = .ok (.iload_n 1, 1) := by decide +kernel
theorem zd_La_h_all_4 : decode zc_La_h_all 4 = .ok (.iload_n 2, 1) := by decide +kernel
theorem zd_La_h_all_5 : decode zc_La_h_all 5 = .ok (.invokevirtual 30, 3) := by decide +kernel
theorem zd_La_h_all_8 : decode zc_La_h_all 8 = .ok (.i2l, 1) := by decide +kernel
theorem zd_La_h_all_9 : decode zc_La_h_all 9 = .ok (.lastore, 1) := by decide +kernel
theorem zd_La_h_all_10 : decode zc_La_h_all 10 = .ok (.goto 7, 3) := by decide +kernel
theorem zd_La_h_all_17 : decode zc_La_h_all 17 = .ok (.iconst 0, 1) := by decide +kernel
theorem zd_La_h_all_18 : decode zc_La_h_all 18 = .ok (.ireturn, 1) := by decide +kernel
theorem zd_La_h_all_13 : decode zc_La_h_all 13 = .ok (.astore 4, 2) := by decide +kernel
theorem zd_La_h_all_15 : decode zc_La_h_all 15 = .ok (.iconst 1, 1) := by decide +kernel
theorem zd_La_h_all_16 : decode zc_La_h_all 16 = .ok (.ireturn, 1) := by decide +kernel
theorem zd_La_h_rip_0 : decode zc_La_h_rip 0 = .ok (.aload_n 0, 1) := by decide +kernel
theorem zd_La_h_rip_1 : decode zc_La_h_rip 1 = .ok (.iload_n 1, 1) := by decide +kernel
theorem zd_La_h_rip_2 : decode zc_La_h_rip 2 = .ok (.invokevirtual 34, 3) := by decide +kernel
theorem zd_La_h_rip_5 : decode zc_La_h_rip 5 = .ok (.goto 6, 3) := by decide +kernel
theorem zd_La_h_rip_11 : decode zc_La_h_rip 11 = .ok (.iconst 0, 1) := by decide +kernel
theorem zd_La_h_rip_12 : decode zc_La_h_rip 12 = .ok (.ireturn, 1) := by decide +kernel
theorem zd_La_h_rip_8 : decode zc_La_h_rip 8 = .ok (.astore_n 2, 1) := by decide +kernel
theorem zd_La_h_rip_9 : decode zc_La_h_rip 9 = .ok (.iconst 1, 1) := by decide +kernel
theorem zd_La_h_rip_10 : decode zc_La_h_rip 10 = .ok (.ireturn, 1) := by decide +kernel
theorem zd_La_h_paint_0 : decode zc_La_h_paint 0 = .ok (.aload_n 0, 1) := by decide +kernel
theorem zd_La_h_paint_1 : decode zc_La_h_paint 1 = .ok (.iload_n 1, 1) := by decide +kernel
theorem zd_La_h_paint_2 : decode zc_La_h_paint 2 = .ok (.iload_n 2, 1) := by decide +kernel
theorem zd_La_h_paint_3 : decode zc_La_h_paint 3 = .ok (.iload_n 3, 1) := by decide +kernel
theorem zd_La_h_paint_4 : decode zc_La_h_paint 4 = .ok (.iload 4, 2) := by decide +kernel
theorem zd_La_h_paint_6 : decode zc_La_h_paint 6 = .ok (.invokevirtual 38, 3) := by decide +kernel
theorem zd_La_h_paint_9 : decode zc_La_h_paint 9 = .ok (.goto 7, 3) := by decide +kernel
theorem zd_La_h_paint_16 : decode zc_La_h_paint 16 = .ok (.iconst 0, 1) := by decide +kernel
theorem zd_La_h_paint_17 : decode zc_La_h_paint 17 = .ok (.ireturn, 1) := by decide +kernel
theorem zd_La_h_paint_12 : decode zc_La_h_paint 12 = .ok (.astore 5, 2) := by decide +kernel
theorem zd_La_h_paint_14 : decode zc_La_h_paint 14 = .ok (.iconst 1, 1) := by decide +kernel
theorem zd_La_h_paint_15 : decode zc_La_h_paint 15 = .ok (.ireturn, 1) := by decide +kernel
theorem zd_La_h_stitch_0 : decode zc_La_h_stitch 0 = .ok (.aload_n 3, 1) := by decide +kernel
theorem zd_La_h_stitch_1 : decode zc_La_h_stitch 1 = .ok (.iconst 0, 1) := by decide +kernel
theorem zd_La_h_stitch_2 : decode zc_La_h_stitch 2 = .ok (.aload_n 0, 1) := by decide +kernel
theorem zd_La_h_stitch_3 : decode zc_La_h_stitch 3 = .ok (.iload_n 1, 1) := by decide +kernel
theorem zd_La_h_stitch_4 : decode zc_La_h_stitch 4 = .ok (.iload_n 2, 1) := by decide +kernel
theorem zd_La_h_stitch_5 : decode zc_La_h_stitch 5 = .ok (.invokevirtual 42, 3) := by decide +kernel
theorem zd_La_h_stitch_8 : decode zc_La_h_stitch 8 = .ok (.ifCond .eq 7, 3) := by decide +kernel
theorem zd_La_h_stitch_15 : decode zc_La_h_stitch 15 = .ok (.lconst 0, 1) := by decide +kernel
theorem zd_La_h_stitch_16 : decode zc_La_h_stitch 16 = .ok (.lastore, 1) := by decide +kernel
theorem zd_La_h_stitch_17 : decode zc_La_h_stitch 17 = .ok (.goto 7, 3) := by decide +kernel
theorem zd_La_h_stitch_24 : decode zc_La_h_stitch 24 = .ok (.iconst 0, 1) := by decide +kernel
theorem zd_La_h_stitch_25 : decode zc_La_h_stitch 25 = .ok (.ireturn, 1) := by decide +kernel
theorem zd_La_h_stitch_11 : decode zc_La_h_stitch 11 = .ok (.lconst 1, 1) := by decide +kernel
theorem zd_La_h_stitch_12 : decode zc_La_h_stitch 12 = .ok (.goto 4, 3) := by decide +kernel
theorem zd_La_h_stitch_20 : decode zc_La_h_stitch 20 = .ok (.astore 4, 2) := by decide +kernel
theorem zd_La_h_stitch_22 : decode zc_La_h_stitch 22 = .ok (.iconst 1, 1) := by decide +kernel
theorem zd_La_h_stitch_23 : decode zc_La_h_stitch 23 = .ok (.ireturn, 1) := by decide +kernel
theorem zd_La_h_cell_0 : decode zc_La_h_cell 0 = .ok (.aload 4, 2) := by decide +kernel
theorem zd_La_h_cell_2 : decode zc_La_h_cell 2 = .ok (.iconst 0, 1) := by decide +kernel
theorem zd_La_h_cell_3 : decode zc_La_h_cell 3 = .ok (.aload_n 0, 1) := by decide +kernel
theorem zd_La_h_cell_4 : decode zc_La_h_cell 4 = .ok (.iload_n 1, 1) := by decide +kernel
theorem zd_La_h_cell_5 : decode zc_La_h_cell 5 = .ok (.iload_n 2, 1) := by decide +kernel
theorem zd_La_h_cell_6 : decode zc_La_h_cell 6 = .ok (.iload_n 3, 1) := by decide +kernel
theorem zd_La_h_cell_7 : decode zc_La_h_cell 7 = .ok (.invokevirtual 46, 3) := by decide +kernel
theorem zd_La_h_cell_10 : decode zc_La_h_cell 10 = .ok (.i2l, 1) := by decide +kernel
theorem zd_La_h_cell_11 : decode zc_La_h_cell 11 = .ok (.lastore, 1) := by decide +kernel
theorem zd_La_h_cell_12 : decode zc_La_h_cell 12 = .ok (.goto 7, 3) := by decide +kernel
theorem zd_La_h_cell_19 : decode zc_La_h_cell 19 = .ok (.iconst 0, 1) := by decide +kernel
theorem zd_La_h_cell_20 : decode zc_La_h_cell 20 = .ok (.ireturn, 1) := by decide +kernel
theorem zd_La_h_cell_15 : decode zc_La_h_cell 15 = .ok (.astore 5, 2) := by decide +kernel
theorem zd_La_h_cell_17 : decode zc_La_h_cell 17 = .ok (.iconst 1, 1) := by decide +kernel
theorem zd_La_h_cell_18 : decode zc_La_h_cell 18 = .ok (.ireturn, 1) := by decide +kernel
theorem zd_La_h_via_0 : decode zc_La_h_via 0 = .ok (.aload_n 3, 1) := by decide +kernel
theorem zd_La_h_via_1 : decode zc_La_h_via 1 = .ok (.iconst 0, 1) := by decide +kernel
theorem zd_La_h_via_2 : decode zc_La_h_via 2 = .ok (.aload_n 0, 1) := by decide +kernel
theorem zd_La_h_via_3 : decode zc_La_h_via 3 = .ok (.iload_n 1, 1) := by decide +kernel
theorem zd_La_h_via_4 : decode zc_La_h_via 4 = .ok (.iload_n 2, 1) := by decide +kernel
theorem zd_La_h_via_5 : decode zc_La_h_via 5 = .ok (.invokevirtual 50, 3) := by decide +kernel
theorem zd_La_h_via_8 : decode zc_La_h_via 8 = .ok (.ifCond .eq 7, 3) := by decide +kernel
theorem zd_La_h_via_15 : decode zc_La_h_via 15 = .ok (.lconst 0, 1) := by decide +kernel
theorem zd_La_h_via_16 : decode zc_La_h_via 16 = .ok (.lastore, 1) := by decide +kernel
theorem zd_La_h_via_17 : decode zc_La_h_via 17 = .ok (.goto 7, 3) := by decide +kernel
theorem zd_La_h_via_24 : decode zc_La_h_via 24 = .ok (.iconst 0, 1) := by decide +kernel
theorem zd_La_h_via_25 : decode zc_La_h_via 25 = .ok (.ireturn, 1) := by decide +kernel
theorem zd_La_h_via_11 : decode zc_La_h_via 11 = .ok (.lconst 1, 1) := by decide +kernel
theorem zd_La_h_via_12 : decode zc_La_h_via 12 = .ok (.goto 4, 3) := by decide +kernel
theorem zd_La_h_via_20 : decode zc_La_h_via 20 = .ok (.astore 4, 2) := by decide +kernel
theorem zd_La_h_via_22 : decode zc_La_h_via 22 = .ok (.iconst 1, 1) := by decide +kernel
theorem zd_La_h_via_23 : decode zc_La_h_via 23 = .ok (.ireturn, 1) := by decide +kernel
theorem zd_La_h_faults_0 : decode zc_La_h_faults 0 = .ok (.aload_n 2, 1) := by decide +kernel
theorem zd_La_h_faults_1 : decode zc_La_h_faults 1 = .ok (.iconst 0, 1) := by decide +kernel
theorem zd_La_h_faults_2 : decode zc_La_h_faults 2 = .ok (.aload_n 0, 1) := by decide +kernel
theorem zd_La_h_faults_3 : decode zc_La_h_faults 3 = .ok (.iload_n 1, 1) := by decide +kernel
theorem zd_La_h_faults_4 : decode zc_La_h_faults 4 = .ok (.invokevirtual 53, 3) := by decide +kernel
theorem zd_La_h_faults_7 : decode zc_La_h_faults 7 = .ok (.i2l, 1) := by decide +kernel
theorem zd_La_h_faults_8 : decode zc_La_h_faults 8 = .ok (.lastore, 1) := by decide +kernel
theorem zd_La_h_faults_9 : decode zc_La_h_faults 9 = .ok (.goto 6, 3) := by decide +kernel
theorem zd_La_h_faults_15 : decode zc_La_h_faults 15 = .ok (.iconst 0, 1) := by decide +kernel
theorem zd_La_h_faults_16 : decode zc_La_h_faults 16 = .ok (.ireturn, 1) := by decide +kernel
theorem zd_La_h_faults_12 : decode zc_La_h_faults 12 = .ok (.astore_n 3, 1) := by decide +kernel
theorem zd_La_h_faults_13 : decode zc_La_h_faults 13 = .ok (.iconst 1, 1) := by decide +kernel
theorem zd_La_h_faults_14 : decode zc_La_h_faults 14 = .ok (.ireturn, 1) := by decide +kernel
theorem zd_La_h_shape_0 : decode zc_La_h_shape 0 = .ok (.aload_n 3, 1) := by decide +kernel
theorem zd_La_h_shape_1 : decode zc_La_h_shape 1 = .ok (.iconst 0, 1) := by decide +kernel
theorem zd_La_h_shape_2 : decode zc_La_h_shape 2 = .ok (.aload_n 0, 1) := by decide +kernel
theorem zd_La_h_shape_3 : decode zc_La_h_shape 3 = .ok (.iload_n 1, 1) := by decide +kernel
theorem zd_La_h_shape_4 : decode zc_La_h_shape 4 = .ok (.iload_n 2, 1) := by decide +kernel
theorem zd_La_h_shape_5 : decode zc_La_h_shape 5 = .ok (.invokevirtual 56, 3) := by decide +kernel
theorem zd_La_h_shape_8 : decode zc_La_h_shape 8 = .ok (.i2l, 1) := by decide +kernel
theorem zd_La_h_shape_9 : decode zc_La_h_shape 9 = .ok (.lastore, 1) := by decide +kernel
theorem zd_La_h_shape_10 : decode zc_La_h_shape 10 = .ok (.goto 11, 3) := by decide +kernel
theorem zd_La_h_shape_21 : decode zc_La_h_shape 21 = .ok (.iconst 0, 1) := by decide +kernel
theorem zd_La_h_shape_22 : decode zc_La_h_shape 22 = .ok (.ireturn, 1) := by decide +kernel
theorem zd_La_h_shape_13 : decode zc_La_h_shape 13 = .ok (.astore 4, 2) := by decide +kernel
theorem zd_La_h_shape_15 : decode zc_La_h_shape 15 = .ok (.iconst 1, 1) := by decide +kernel
theorem zd_La_h_shape_16 : decode zc_La_h_shape 16 = .ok (.ireturn, 1) := by decide +kernel
theorem zd_La_h_shape_17 : decode zc_La_h_shape 17 = .ok (.astore 4, 2) := by decide +kernel
theorem zd_La_h_shape_19 : decode zc_La_h_shape 19 = .ok (.iconst 2, 1) := by decide +kernel
theorem zd_La_h_shape_20 : decode zc_La_h_shape 20 = .ok (.ireturn, 1) := by decide +kernel
theorem zd_La_law_63 : decode zc_La_law 63 = .ok (.iload 4, 2) := by decide +kernel
theorem zd_La_law_65 : decode zc_La_law 65 = .ok (.aload_n 0, 1) := by decide +kernel
theorem zd_La_law_66 : decode zc_La_law 66 = .ok (.arraylength, 1) := by decide +kernel
theorem zd_La_law_67 : decode zc_La_law 67 = .ok (.bipush 7, 2) := by decide +kernel
theorem zd_La_law_69 : decode zc_La_law 69 = .ok (.isub, 1) := by decide +kernel
theorem zd_La_law_70 : decode zc_La_law 70 = .ok (.if_icmp .gt 665, 3) := by decide +kernel
theorem zd_La_law_735 : decode zc_La_law 735 = .ok (.iconst 1, 1) := by decide +kernel
theorem zd_La_law_736 : decode zc_La_law 736 = .ok (.ireturn, 1) := by decide +kernel
theorem zd_La_law_73 : decode zc_La_law 73 = .ok (.aload_n 0, 1) := by decide +kernel
theorem zd_La_law_74 : decode zc_La_law 74 = .ok (.iload 4, 2) := by decide +kernel
theorem zd_La_law_76 : decode zc_La_law 76 = .ok (.iaload, 1) := by decide +kernel
theorem zd_La_law_77 : decode zc_La_law 77 = .ok (.bipush 15, 2) := by decide +kernel
theorem zd_La_law_79 : decode zc_La_law 79 = .ok (.iand, 1) := by decide +kernel
theorem zd_La_law_80 : decode zc_La_law 80 = .ok (.tableswitch 649 0 12 #[68, 120, 210, 238, 266, 322, 347, 408, 448, 500, 540, 568, 581], 68) := by decide +kernel
theorem zd_La_law_148 : decode zc_La_law 148 = .ok (.aload_n 1, 1) := by decide +kernel
theorem zd_La_law_149 : decode zc_La_law 149 = .ok (.aload_n 0, 1) := by decide +kernel
theorem zd_La_law_150 : decode zc_La_law 150 = .ok (.iload 4, 2) := by decide +kernel
theorem zd_La_law_152 : decode zc_La_law 152 = .ok (.iconst 1, 1) := by decide +kernel
theorem zd_La_law_153 : decode zc_La_law 153 = .ok (.iadd, 1) := by decide +kernel
theorem zd_La_law_154 : decode zc_La_law 154 = .ok (.iaload, 1) := by decide +kernel
theorem zd_La_law_155 : decode zc_La_law 155 = .ok (.aload_n 0, 1) := by decide +kernel
theorem zd_La_law_156 : decode zc_La_law 156 = .ok (.iload 4, 2) := by decide +kernel
theorem zd_La_law_158 : decode zc_La_law 158 = .ok (.iconst 2, 1) := by decide +kernel
theorem zd_La_law_159 : decode zc_La_law 159 = .ok (.iadd, 1) := by decide +kernel
theorem zd_La_law_160 : decode zc_La_law 160 = .ok (.iaload, 1) := by decide +kernel
theorem zd_La_law_161 : decode zc_La_law 161 = .ok (.aload_n 0, 1) := by decide +kernel
theorem zd_La_law_162 : decode zc_La_law 162 = .ok (.iload 4, 2) := by decide +kernel
theorem zd_La_law_164 : decode zc_La_law 164 = .ok (.iconst 3, 1) := by decide +kernel
theorem zd_La_law_165 : decode zc_La_law 165 = .ok (.iadd, 1) := by decide +kernel
theorem zd_La_law_166 : decode zc_La_law 166 = .ok (.iaload, 1) := by decide +kernel
theorem zd_La_law_167 : decode zc_La_law 167 = .ok (.aload_n 3, 1) := by decide +kernel
theorem zd_La_law_168 : decode zc_La_law 168 = .ok (.invokestatic 70, 3) := by decide +kernel
theorem zd_La_law_171 : decode zc_La_law 171 = .ok (.istore 5, 2) := by decide +kernel
theorem zd_La_law_173 : decode zc_La_law 173 = .ok (.aload_n 2, 1) := by decide +kernel
theorem zd_La_law_174 : decode zc_La_law 174 = .ok (.aload_n 0, 1) := by decide +kernel
theorem zd_La_law_175 : decode zc_La_law 175 = .ok (.iload 4, 2) := by decide +kernel
theorem zd_La_law_177 : decode zc_La_law 177 = .ok (.iconst 1, 1) := by decide +kernel
theorem zd_La_law_178 : decode zc_La_law 178 = .ok (.iadd, 1) := by decide +kernel
theorem zd_La_law_179 : decode zc_La_law 179 = .ok (.iaload, 1) := by decide +kernel
theorem zd_La_law_180 : decode zc_La_law 180 = .ok (.aload_n 0, 1) := by decide +kernel
theorem zd_La_law_181 : decode zc_La_law 181 = .ok (.iload 4, 2) := by decide +kernel
theorem zd_La_law_183 : decode zc_La_law 183 = .ok (.iconst 2, 1) := by decide +kernel
theorem zd_La_law_184 : decode zc_La_law 184 = .ok (.iadd, 1) := by decide +kernel
theorem zd_La_law_185 : decode zc_La_law 185 = .ok (.iaload, 1) := by decide +kernel
theorem zd_La_law_186 : decode zc_La_law 186 = .ok (.aload_n 0, 1) := by decide +kernel
theorem zd_La_law_187 : decode zc_La_law 187 = .ok (.iload 4, 2) := by decide +kernel
theorem zd_La_law_189 : decode zc_La_law 189 = .ok (.iconst 3, 1) := by decide +kernel
theorem zd_La_law_190 : decode zc_La_law 190 = .ok (.iadd, 1) := by decide +kernel
theorem zd_La_law_191 : decode zc_La_law 191 = .ok (.iaload, 1) := by decide +kernel
theorem zd_La_law_192 : decode zc_La_law 192 = .ok (.invokevirtual 73, 3) := by decide +kernel
theorem zd_La_law_195 : decode zc_La_law 195 = .ok (.istore 6, 2) := by decide +kernel
theorem zd_La_law_197 : decode zc_La_law 197 = .ok (.goto 532, 3) := by decide +kernel
theorem zd_La_law_200 : decode zc_La_law 200 = .ok (.aload_n 1, 1) := by decide +kernel
theorem zd_La_law_201 : decode zc_La_law 201 = .ok (.aload_n 0, 1) := by decide +kernel
theorem zd_La_law_202 : decode zc_La_law 202 = .ok (.iload 4, 2) := by decide +kernel
theorem zd_La_law_204 : decode zc_La_law 204 = .ok (.iconst 1, 1) := by decide +kernel
theorem zd_La_law_205 : decode zc_La_law 205 = .ok (.iadd, 1) := by decide +kernel
theorem zd_La_law_206 : decode zc_La_law 206 = .ok (.iaload, 1) := by decide +kernel
theorem zd_La_law_207 : decode zc_La_law 207 = .ok (.aload_n 0, 1) := by decide +kernel
theorem zd_La_law_208 : decode zc_La_law 208 = .ok (.iload 4, 2) := by decide +kernel
theorem zd_La_law_210 : decode zc_La_law 210 = .ok (.iconst 2, 1) := by decide +kernel
theorem zd_La_law_211 : decode zc_La_law 211 = .ok (.iadd, 1) := by decide +kernel
theorem zd_La_law_212 : decode zc_La_law 212 = .ok (.iaload, 1) := by decide +kernel
theorem zd_La_law_213 : decode zc_La_law 213 = .ok (.aload_n 0, 1) := by decide +kernel
theorem zd_La_law_214 : decode zc_La_law 214 = .ok (.iload 4, 2) := by decide +kernel
theorem zd_La_law_216 : decode zc_La_law 216 = .ok (.iconst 3, 1) := by decide +kernel
theorem zd_La_law_217 : decode zc_La_law 217 = .ok (.iadd, 1) := by decide +kernel
theorem zd_La_law_218 : decode zc_La_law 218 = .ok (.iaload, 1) := by decide +kernel
theorem zd_La_law_219 : decode zc_La_law 219 = .ok (.aload_n 0, 1) := by decide +kernel
theorem zd_La_law_220 : decode zc_La_law 220 = .ok (.iload 4, 2) := by decide +kernel
theorem zd_La_law_222 : decode zc_La_law 222 = .ok (.iconst 4, 1) := by decide +kernel
theorem zd_La_law_223 : decode zc_La_law 223 = .ok (.iadd, 1) := by decide +kernel
theorem zd_La_law_224 : decode zc_La_law 224 = .ok (.iaload, 1) := by decide +kernel
theorem zd_La_law_225 : decode zc_La_law 225 = .ok (.aload_n 0, 1) := by decide +kernel
theorem zd_La_law_226 : decode zc_La_law 226 = .ok (.iload 4, 2) := by decide +kernel
theorem zd_La_law_228 : decode zc_La_law 228 = .ok (.iconst 5, 1) := by decide +kernel
theorem zd_La_law_229 : decode zc_La_law 229 = .ok (.iadd, 1) := by decide +kernel
theorem zd_La_law_230 : decode zc_La_law 230 = .ok (.iaload, 1) := by decide +kernel
theorem zd_La_law_231 : decode zc_La_law 231 = .ok (.aload_n 0, 1) := by decide +kernel
theorem zd_La_law_232 : decode zc_La_law 232 = .ok (.iload 4, 2) := by decide +kernel
theorem zd_La_law_234 : decode zc_La_law 234 = .ok (.bipush 6, 2) := by decide +kernel
theorem zd_La_law_236 : decode zc_La_law 236 = .ok (.iadd, 1) := by decide +kernel
theorem zd_La_law_237 : decode zc_La_law 237 = .ok (.iaload, 1) := by decide +kernel
theorem zd_La_law_238 : decode zc_La_law 238 = .ok (.aload_n 3, 1) := by decide +kernel
theorem zd_La_law_239 : decode zc_La_law 239 = .ok (.invokestatic 74, 3) := by decide +kernel
theorem zd_La_law_242 : decode zc_La_law 242 = .ok (.istore 5, 2) := by decide +kernel
theorem zd_La_law_244 : decode zc_La_law 244 = .ok (.aload_n 2, 1) := by decide +kernel
theorem zd_La_law_245 : decode zc_La_law 245 = .ok (.aload_n 0, 1) := by decide +kernel
theorem zd_La_law_246 : decode zc_La_law 246 = .ok (.iload 4, 2) := by decide +kernel
theorem zd_La_law_248 : decode zc_La_law 248 = .ok (.iconst 1, 1) := by decide +kernel
theorem zd_La_law_249 : decode zc_La_law 249 = .ok (.iadd, 1) := by decide +kernel

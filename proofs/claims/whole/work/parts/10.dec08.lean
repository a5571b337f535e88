/-! decode rows (written by program) -/
theorem dX4_reach_0 : decode cX4_reach 0 = .ok (.iload_n 2, 1) := by decide +kernel
theorem dX4_reach_1 : decode cX4_reach 1 = .ok (.ifCond .lt 13, 3) := by decide +kernel
theorem dX4_reach_4 : decode cX4_reach 4 = .ok (.iload_n 2, 1) := by decide +kernel
theorem dX4_reach_5 : decode cX4_reach 5 = .ok (.aload_n 0, 1) := by decide +kernel
theorem dX4_reach_6 : decode cX4_reach 6 = .ok (.getfield 28, 3) := by decide +kernel
theorem dX4_reach_9 : decode cX4_reach 9 = .ok (.iload_n 1, 1) := by decide +kernel
theorem dX4_reach_10 : decode cX4_reach 10 = .ok (.iaload, 1) := by decide +kernel
theorem dX4_reach_11 : decode cX4_reach 11 = .ok (.if_icmp .lt 11, 3) := by decide +kernel
theorem dX4_reach_14 : decode cX4_reach 14 = .ok (.aload_n 0, 1) := by decide +kernel
theorem dX4_reach_15 : decode cX4_reach 15 = .ok (.bipush (-11), 2) := by decide +kernel
theorem dX4_reach_17 : decode cX4_reach 17 = .ok (.putfield 54, 3) := by decide +kernel
theorem dX4_reach_20 : decode cX4_reach 20 = .ok (.iconst 0, 1) := by decide +kernel
theorem dX4_reach_21 : decode cX4_reach 21 = .ok (.ireturn, 1) := by decide +kernel
theorem dX4_reach_22 : decode cX4_reach 22 = .ok (.bipush 8, 2) := by decide +kernel
theorem dX4_reach_24 : decode cX4_reach 24 = .ok (.iload_n 1, 1) := by decide +kernel
theorem dX4_reach_25 : decode cX4_reach 25 = .ok (.imul, 1) := by decide +kernel
theorem dX4_reach_26 : decode cX4_reach 26 = .ok (.iload_n 2, 1) := by decide +kernel
theorem dX4_reach_27 : decode cX4_reach 27 = .ok (.bipush 8, 2) := by decide +kernel
theorem dX4_reach_29 : decode cX4_reach 29 = .ok (.idiv, 1) := by decide +kernel
theorem dX4_reach_30 : decode cX4_reach 30 = .ok (.iadd, 1) := by decide +kernel
theorem dX4_reach_31 : decode cX4_reach 31 = .ok (.istore 4, 2) := by decide +kernel
theorem dX4_reach_33 : decode cX4_reach 33 = .ok (.aload_n 0, 1) := by decide +kernel
theorem dX4_reach_34 : decode cX4_reach 34 = .ok (.iload 4, 2) := by decide +kernel
theorem dX4_reach_36 : decode cX4_reach 36 = .ok (.invokevirtual 60, 3) := by decide +kernel
theorem dX4_reach_39 : decode cX4_reach 39 = .ok (.istore 5, 2) := by decide +kernel
theorem dX4_reach_41 : decode cX4_reach 41 = .ok (.iload 5, 2) := by decide +kernel
theorem dX4_reach_43 : decode cX4_reach 43 = .ok (.ifCond .le 13, 3) := by decide +kernel
theorem dX4_reach_46 : decode cX4_reach 46 = .ok (.iload_n 3, 1) := by decide +kernel
theorem dX4_reach_47 : decode cX4_reach 47 = .ok (.ifCond .eq 18, 3) := by decide +kernel
theorem dX4_reach_50 : decode cX4_reach 50 = .ok (.iload 5, 2) := by decide +kernel
theorem dX4_reach_52 : decode cX4_reach 52 = .ok (.iconst 1, 1) := by decide +kernel
theorem dX4_reach_53 : decode cX4_reach 53 = .ok (.if_icmp .eq 12, 3) := by decide +kernel
theorem dX4_reach_56 : decode cX4_reach 56 = .ok (.aload_n 0, 1) := by decide +kernel
theorem dX4_reach_57 : decode cX4_reach 57 = .ok (.iload 4, 2) := by decide +kernel
theorem dX4_reach_59 : decode cX4_reach 59 = .ok (.invokevirtual 64, 3) := by decide +kernel
theorem dX4_reach_62 : decode cX4_reach 62 = .ok (.ifCond .eq 7, 3) := by decide +kernel
theorem dX4_reach_65 : decode cX4_reach 65 = .ok (.iconst 1, 1) := by decide +kernel
theorem dX4_reach_66 : decode cX4_reach 66 = .ok (.goto 4, 3) := by decide +kernel
theorem dX4_reach_69 : decode cX4_reach 69 = .ok (.iconst 0, 1) := by decide +kernel
theorem dX4_reach_70 : decode cX4_reach 70 = .ok (.ireturn, 1) := by decide +kernel
theorem dX4_reap_0 : decode cX4_reap 0 = .ok (.iload_n 1, 1) := by decide +kernel
theorem dX4_reap_1 : decode cX4_reap 1 = .ok (.invokestatic 68, 3) := by decide +kernel
theorem dX4_reap_4 : decode cX4_reap 4 = .ok (.ifCond .eq 23, 3) := by decide +kernel
theorem dX4_reap_7 : decode cX4_reap 7 = .ok (.aload_n 0, 1) := by decide +kernel
theorem dX4_reap_8 : decode cX4_reap 8 = .ok (.getfield 13, 3) := by decide +kernel
theorem dX4_reap_11 : decode cX4_reap 11 = .ok (.iload_n 1, 1) := by decide +kernel
theorem dX4_reap_12 : decode cX4_reap 12 = .ok (.iaload, 1) := by decide +kernel
theorem dX4_reap_13 : decode cX4_reap 13 = .ok (.iconst 3, 1) := by decide +kernel
theorem dX4_reap_14 : decode cX4_reap 14 = .ok (.if_icmp .ne 13, 3) := by decide +kernel
theorem dX4_reap_17 : decode cX4_reap 17 = .ok (.aload_n 0, 1) := by decide +kernel
theorem dX4_reap_18 : decode cX4_reap 18 = .ok (.getfield 16, 3) := by decide +kernel
theorem dX4_reap_21 : decode cX4_reap 21 = .ok (.iload_n 1, 1) := by decide +kernel
theorem dX4_reap_22 : decode cX4_reap 22 = .ok (.iaload, 1) := by decide +kernel
theorem dX4_reap_23 : decode cX4_reap 23 = .ok (.iconst (-1), 1) := by decide +kernel
theorem dX4_reap_24 : decode cX4_reap 24 = .ok (.if_icmp .eq 5, 3) := by decide +kernel
theorem dX4_reap_27 : decode cX4_reap 27 = .ok (.iconst (-1), 1) := by decide +kernel
theorem dX4_reap_28 : decode cX4_reap 28 = .ok (.ireturn, 1) := by decide +kernel
theorem dX4_reap_29 : decode cX4_reap 29 = .ok (.aload_n 0, 1) := by decide +kernel
theorem dX4_reap_30 : decode cX4_reap 30 = .ok (.iload_n 1, 1) := by decide +kernel
theorem dX4_reap_31 : decode cX4_reap 31 = .ok (.invokevirtual 85, 3) := by decide +kernel
theorem dX4_reap_34 : decode cX4_reap 34 = .ok (.aload_n 0, 1) := by decide +kernel
theorem dX4_reap_35 : decode cX4_reap 35 = .ok (.getfield 19, 3) := by decide +kernel
theorem dX4_reap_38 : decode cX4_reap 38 = .ok (.iload_n 1, 1) := by decide +kernel
theorem dX4_reap_39 : decode cX4_reap 39 = .ok (.iaload, 1) := by decide +kernel
theorem dX4_reap_40 : decode cX4_reap 40 = .ok (.ireturn, 1) := by decide +kernel
theorem dX4_register_0 : decode cX4_register 0 = .ok (.aload_n 0, 1) := by decide +kernel
theorem dX4_register_1 : decode cX4_register 1 = .ok (.iload_n 1, 1) := by decide +kernel
theorem dX4_register_2 : decode cX4_register 2 = .ok (.invokevirtual 78, 3) := by decide +kernel
theorem dX4_register_5 : decode cX4_register 5 = .ok (.ifCond .eq 13, 3) := by decide +kernel
theorem dX4_register_8 : decode cX4_register 8 = .ok (.iload_n 2, 1) := by decide +kernel
theorem dX4_register_9 : decode cX4_register 9 = .ok (.ifCond .lt 9, 3) := by decide +kernel
theorem dX4_register_12 : decode cX4_register 12 = .ok (.iload_n 2, 1) := by decide +kernel
theorem dX4_register_13 : decode cX4_register 13 = .ok (.bipush 9, 2) := by decide +kernel
theorem dX4_register_15 : decode cX4_register 15 = .ok (.if_icmp .le 5, 3) := by decide +kernel
theorem dX4_register_18 : decode cX4_register 18 = .ok (.iconst 0, 1) := by decide +kernel
theorem dX4_register_19 : decode cX4_register 19 = .ok (.ireturn, 1) := by decide +kernel
theorem dX4_register_20 : decode cX4_register 20 = .ok (.iload_n 2, 1) := by decide +kernel
theorem dX4_register_21 : decode cX4_register 21 = .ok (.bipush 8, 2) := by decide +kernel
theorem dX4_register_23 : decode cX4_register 23 = .ok (.if_icmp .ne 12, 3) := by decide +kernel
theorem dX4_register_26 : decode cX4_register 26 = .ok (.aload_n 0, 1) := by decide +kernel
theorem dX4_register_27 : decode cX4_register 27 = .ok (.getfield 25, 3) := by decide +kernel
theorem dX4_register_30 : decode cX4_register 30 = .ok (.iload_n 1, 1) := by decide +kernel
theorem dX4_register_31 : decode cX4_register 31 = .ok (.iaload, 1) := by decide +kernel
theorem dX4_register_32 : decode cX4_register 32 = .ok (.goto 29, 3) := by decide +kernel
theorem dX4_register_35 : decode cX4_register 35 = .ok (.iload_n 2, 1) := by decide +kernel
theorem dX4_register_36 : decode cX4_register 36 = .ok (.bipush 9, 2) := by decide +kernel
theorem dX4_register_38 : decode cX4_register 38 = .ok (.if_icmp .ne 12, 3) := by decide +kernel
theorem dX4_register_41 : decode cX4_register 41 = .ok (.aload_n 0, 1) := by decide +kernel
theorem dX4_register_42 : decode cX4_register 42 = .ok (.getfield 28, 3) := by decide +kernel
theorem dX4_register_45 : decode cX4_register 45 = .ok (.iload_n 1, 1) := by decide +kernel
theorem dX4_register_46 : decode cX4_register 46 = .ok (.iaload, 1) := by decide +kernel
theorem dX4_register_47 : decode cX4_register 47 = .ok (.goto 14, 3) := by decide +kernel
theorem dX4_register_50 : decode cX4_register 50 = .ok (.aload_n 0, 1) := by decide +kernel
theorem dX4_register_51 : decode cX4_register 51 = .ok (.getfield 22, 3) := by decide +kernel
theorem dX4_register_54 : decode cX4_register 54 = .ok (.bipush 8, 2) := by decide +kernel
theorem dX4_register_56 : decode cX4_register 56 = .ok (.iload_n 1, 1) := by decide +kernel
theorem dX4_register_57 : decode cX4_register 57 = .ok (.imul, 1) := by decide +kernel
theorem dX4_register_58 : decode cX4_register 58 = .ok (.iload_n 2, 1) := by decide +kernel
theorem dX4_register_59 : decode cX4_register 59 = .ok (.iadd, 1) := by decide +kernel
theorem dX4_register_60 : decode cX4_register 60 = .ok (.iaload, 1) := by decide +kernel
theorem dX4_register_61 : decode cX4_register 61 = .ok (.ireturn, 1) := by decide +kernel
theorem dX4_release_0 : decode cX4_release 0 = .ok (.aload_n 0, 1) := by decide +kernel
theorem dX4_release_1 : decode cX4_release 1 = .ok (.getfield 34, 3) := by decide +kernel
theorem dX4_release_4 : decode cX4_release 4 = .ok (.iload_n 1, 1) := by decide +kernel
theorem dX4_release_5 : decode cX4_release 5 = .ok (.iconst 0, 1) := by decide +kernel
theorem dX4_release_6 : decode cX4_release 6 = .ok (.iastore, 1) := by decide +kernel
theorem dX4_release_7 : decode cX4_release 7 = .ok (.iconst 0, 1) := by decide +kernel
theorem dX4_release_8 : decode cX4_release 8 = .ok (.istore_n 2, 1) := by decide +kernel
theorem dX4_release_9 : decode cX4_release 9 = .ok (.iload_n 2, 1) := by decide +kernel
theorem dX4_release_10 : decode cX4_release 10 = .ok (.bipush 8, 2) := by decide +kernel
theorem dX4_release_12 : decode cX4_release 12 = .ok (.if_icmp .ge 21, 3) := by decide +kernel
theorem dX4_release_15 : decode cX4_release 15 = .ok (.aload_n 0, 1) := by decide +kernel
theorem dX4_release_16 : decode cX4_release 16 = .ok (.getfield 31, 3) := by decide +kernel
theorem dX4_release_19 : decode cX4_release 19 = .ok (.bipush 8, 2) := by decide +kernel
theorem dX4_release_21 : decode cX4_release 21 = .ok (.iload_n 1, 1) := by decide +kernel
theorem dX4_release_22 : decode cX4_release 22 = .ok (.imul, 1) := by decide +kernel
theorem dX4_release_23 : decode cX4_release 23 = .ok (.iload_n 2, 1) := by decide +kernel
theorem dX4_release_24 : decode cX4_release 24 = .ok (.iadd, 1) := by decide +kernel
theorem dX4_release_25 : decode cX4_release 25 = .ok (.iconst 0, 1) := by decide +kernel
theorem dX4_release_26 : decode cX4_release 26 = .ok (.iastore, 1) := by decide +kernel
theorem dX4_release_27 : decode cX4_release 27 = .ok (.iinc 2 1, 3) := by decide +kernel
theorem dX4_release_30 : decode cX4_release 30 = .ok (.goto (-21), 3) := by decide +kernel
theorem dX4_release_33 : decode cX4_release 33 = .ok (.return_, 1) := by decide +kernel
theorem dX4_running_0 : decode cX4_running 0 = .ok (.aload_n 0, 1) := by decide +kernel
theorem dX4_running_1 : decode cX4_running 1 = .ok (.getfield 37, 3) := by decide +kernel
theorem dX4_running_4 : decode cX4_running 4 = .ok (.iconst (-1), 1) := by decide +kernel
theorem dX4_running_5 : decode cX4_running 5 = .ok (.if_icmp .eq 34, 3) := by decide +kernel
theorem dX4_running_8 : decode cX4_running 8 = .ok (.aload_n 0, 1) := by decide +kernel
theorem dX4_running_9 : decode cX4_running 9 = .ok (.getfield 13, 3) := by decide +kernel
theorem dX4_running_12 : decode cX4_running 12 = .ok (.aload_n 0, 1) := by decide +kernel
theorem dX4_running_13 : decode cX4_running 13 = .ok (.getfield 37, 3) := by decide +kernel
theorem dX4_running_16 : decode cX4_running 16 = .ok (.iaload, 1) := by decide +kernel
theorem dX4_running_17 : decode cX4_running 17 = .ok (.iconst 1, 1) := by decide +kernel
theorem dX4_running_18 : decode cX4_running 18 = .ok (.if_icmp .ne 21, 3) := by decide +kernel
theorem dX4_running_21 : decode cX4_running 21 = .ok (.aload_n 0, 1) := by decide +kernel
theorem dX4_running_22 : decode cX4_running 22 = .ok (.getfield 88, 3) := by decide +kernel
theorem dX4_running_25 : decode cX4_running 25 = .ok (.aload_n 0, 1) := by decide +kernel
theorem dX4_running_26 : decode cX4_running 26 = .ok (.getfield 47, 3) := by decide +kernel
theorem dX4_running_29 : decode cX4_running 29 = .ok (.if_icmp .ge 10, 3) := by decide +kernel
theorem dX4_running_32 : decode cX4_running 32 = .ok (.aload_n 0, 1) := by decide +kernel
theorem dX4_running_33 : decode cX4_running 33 = .ok (.getfield 37, 3) := by decide +kernel
theorem dX4_running_36 : decode cX4_running 36 = .ok (.goto 4, 3) := by decide +kernel
theorem dX4_running_39 : decode cX4_running 39 = .ok (.iconst (-1), 1) := by decide +kernel
theorem dX4_running_40 : decode cX4_running 40 = .ok (.ireturn, 1) := by decide +kernel
theorem dX4_sharers_0 : decode cX4_sharers 0 = .ok (.iconst 0, 1) := by decide +kernel
theorem dX4_sharers_1 : decode cX4_sharers 1 = .ok (.istore_n 2, 1) := by decide +kernel
theorem dX4_sharers_2 : decode cX4_sharers 2 = .ok (.iconst 0, 1) := by decide +kernel
theorem dX4_sharers_3 : decode cX4_sharers 3 = .ok (.istore_n 3, 1) := by decide +kernel
theorem dX4_sharers_4 : decode cX4_sharers 4 = .ok (.iload_n 3, 1) := by decide +kernel
theorem dX4_sharers_5 : decode cX4_sharers 5 = .ok (.bipush 64, 2) := by decide +kernel
theorem dX4_sharers_7 : decode cX4_sharers 7 = .ok (.if_icmp .ge 41, 3) := by decide +kernel
theorem dX4_sharers_10 : decode cX4_sharers 10 = .ok (.iload_n 2, 1) := by decide +kernel
theorem dX4_sharers_11 : decode cX4_sharers 11 = .ok (.aload_n 0, 1) := by decide +kernel
theorem dX4_sharers_12 : decode cX4_sharers 12 = .ok (.getfield 34, 3) := by decide +kernel
theorem dX4_sharers_15 : decode cX4_sharers 15 = .ok (.iload_n 1, 1) := by decide +kernel
theorem dX4_sharers_16 : decode cX4_sharers 16 = .ok (.iaload, 1) := by decide +kernel
theorem dX4_sharers_17 : decode cX4_sharers 17 = .ok (.ifCond .le 22, 3) := by decide +kernel
theorem dX4_sharers_20 : decode cX4_sharers 20 = .ok (.aload_n 0, 1) := by decide +kernel
theorem dX4_sharers_21 : decode cX4_sharers 21 = .ok (.getfield 34, 3) := by decide +kernel
theorem dX4_sharers_24 : decode cX4_sharers 24 = .ok (.iload_n 3, 1) := by decide +kernel
theorem dX4_sharers_25 : decode cX4_sharers 25 = .ok (.iaload, 1) := by decide +kernel
theorem dX4_sharers_26 : decode cX4_sharers 26 = .ok (.aload_n 0, 1) := by decide +kernel
theorem dX4_sharers_27 : decode cX4_sharers 27 = .ok (.getfield 34, 3) := by decide +kernel
theorem dX4_sharers_30 : decode cX4_sharers 30 = .ok (.iload_n 1, 1) := by decide +kernel
theorem dX4_sharers_31 : decode cX4_sharers 31 = .ok (.iaload, 1) := by decide +kernel
theorem dX4_sharers_32 : decode cX4_sharers 32 = .ok (.if_icmp .ne 7, 3) := by decide +kernel
theorem dX4_sharers_35 : decode cX4_sharers 35 = .ok (.iconst 1, 1) := by decide +kernel
theorem dX4_sharers_36 : decode cX4_sharers 36 = .ok (.goto 4, 3) := by decide +kernel
theorem dX4_sharers_39 : decode cX4_sharers 39 = .ok (.iconst 0, 1) := by decide +kernel
theorem dX4_sharers_40 : decode cX4_sharers 40 = .ok (.iadd, 1) := by decide +kernel
theorem dX4_sharers_41 : decode cX4_sharers 41 = .ok (.istore_n 2, 1) := by decide +kernel
theorem dX4_sharers_42 : decode cX4_sharers 42 = .ok (.iinc 3 1, 3) := by decide +kernel
theorem dX4_sharers_45 : decode cX4_sharers 45 = .ok (.goto (-41), 3) := by decide +kernel
theorem dX4_sharers_48 : decode cX4_sharers 48 = .ok (.iload_n 2, 1) := by decide +kernel
theorem dX4_sharers_49 : decode cX4_sharers 49 = .ok (.ireturn, 1) := by decide +kernel
theorem dX4_sharing_0 : decode cX4_sharing 0 = .ok (.aload_n 0, 1) := by decide +kernel
theorem dX4_sharing_1 : decode cX4_sharing 1 = .ok (.iload_n 1, 1) := by decide +kernel
theorem dX4_sharing_2 : decode cX4_sharing 2 = .ok (.invokevirtual 78, 3) := by decide +kernel
theorem dX4_sharing_5 : decode cX4_sharing 5 = .ok (.ifCond .eq 26, 3) := by decide +kernel
theorem dX4_sharing_8 : decode cX4_sharing 8 = .ok (.iload_n 2, 1) := by decide +kernel
theorem dX4_sharing_9 : decode cX4_sharing 9 = .ok (.ifCond .lt 22, 3) := by decide +kernel
theorem dX4_sharing_12 : decode cX4_sharing 12 = .ok (.iload_n 2, 1) := by decide +kernel
theorem dX4_sharing_13 : decode cX4_sharing 13 = .ok (.bipush 8, 2) := by decide +kernel
theorem dX4_sharing_15 : decode cX4_sharing 15 = .ok (.if_icmp .ge 16, 3) := by decide +kernel
theorem dX4_sharing_18 : decode cX4_sharing 18 = .ok (.aload_n 0, 1) := by decide +kernel
theorem dX4_sharing_19 : decode cX4_sharing 19 = .ok (.bipush 8, 2) := by decide +kernel
theorem dX4_sharing_21 : decode cX4_sharing 21 = .ok (.iload_n 1, 1) := by decide +kernel
theorem dX4_sharing_22 : decode cX4_sharing 22 = .ok (.imul, 1) := by decide +kernel
theorem dX4_sharing_23 : decode cX4_sharing 23 = .ok (.iload_n 2, 1) := by decide +kernel
theorem dX4_sharing_24 : decode cX4_sharing 24 = .ok (.iadd, 1) := by decide +kernel
theorem dX4_sharing_25 : decode cX4_sharing 25 = .ok (.invokevirtual 60, 3) := by decide +kernel
theorem dX4_sharing_28 : decode cX4_sharing 28 = .ok (.goto 4, 3) := by decide +kernel
theorem dX4_sharing_31 : decode cX4_sharing 31 = .ok (.iconst 0, 1) := by decide +kernel
theorem dX4_sharing_32 : decode cX4_sharing 32 = .ok (.ireturn, 1) := by decide +kernel
theorem dX4_simple_0 : decode cX4_simple 0 = .ok (.aload_n 0, 1) := by decide +kernel
theorem dX4_simple_1 : decode cX4_simple 1 = .ok (.getfield 22, 3) := by decide +kernel
theorem dX4_simple_4 : decode cX4_simple 4 = .ok (.bipush 8, 2) := by decide +kernel
theorem dX4_simple_6 : decode cX4_simple 6 = .ok (.iload_n 1, 1) := by decide +kernel
theorem dX4_simple_7 : decode cX4_simple 7 = .ok (.imul, 1) := by decide +kernel
theorem dX4_simple_8 : decode cX4_simple 8 = .ok (.iload_n 3, 1) := by decide +kernel
theorem dX4_simple_9 : decode cX4_simple 9 = .ok (.iadd, 1) := by decide +kernel
theorem dX4_simple_10 : decode cX4_simple 10 = .ok (.iaload, 1) := by decide +kernel
theorem dX4_simple_11 : decode cX4_simple 11 = .ok (.istore 6, 2) := by decide +kernel
theorem dX4_simple_13 : decode cX4_simple 13 = .ok (.aload_n 0, 1) := by decide +kernel
theorem dX4_simple_14 : decode cX4_simple 14 = .ok (.getfield 22, 3) := by decide +kernel
theorem dX4_simple_17 : decode cX4_simple 17 = .ok (.bipush 8, 2) := by decide +kernel
theorem dX4_simple_19 : decode cX4_simple 19 = .ok (.iload_n 1, 1) := by decide +kernel
theorem dX4_simple_20 : decode cX4_simple 20 = .ok (.imul, 1) := by decide +kernel
theorem dX4_simple_21 : decode cX4_simple 21 = .ok (.iload 4, 2) := by decide +kernel
theorem dX4_simple_23 : decode cX4_simple 23 = .ok (.iadd, 1) := by decide +kernel
theorem dX4_simple_24 : decode cX4_simple 24 = .ok (.iaload, 1) := by decide +kernel
theorem dX4_simple_25 : decode cX4_simple 25 = .ok (.istore 7, 2) := by decide +kernel
theorem dX4_simple_27 : decode cX4_simple 27 = .ok (.iload 6, 2) := by decide +kernel
theorem dX4_simple_29 : decode cX4_simple 29 = .ok (.istore 8, 2) := by decide +kernel
theorem dX4_simple_31 : decode cX4_simple 31 = .ok (.iload_n 2, 1) := by decide +kernel
theorem dX4_simple_32 : decode cX4_simple 32 = .ok (.tableswitch 199 0 6 #[44, 51, 64, 74, 113, 147, 172], 44) := by decide +kernel
theorem dX4_simple_76 : decode cX4_simple 76 = .ok (.iload 5, 2) := by decide +kernel
theorem dX4_simple_78 : decode cX4_simple 78 = .ok (.istore 8, 2) := by decide +kernel
theorem dX4_simple_80 : decode cX4_simple 80 = .ok (.goto 175, 3) := by decide +kernel
theorem dX4_simple_83 : decode cX4_simple 83 = .ok (.iload 6, 2) := by decide +kernel
theorem dX4_simple_85 : decode cX4_simple 85 = .ok (.iload 7, 2) := by decide +kernel
theorem dX4_simple_87 : decode cX4_simple 87 = .ok (.iadd, 1) := by decide +kernel
theorem dX4_simple_88 : decode cX4_simple 88 = .ok (.iload 5, 2) := by decide +kernel
theorem dX4_simple_90 : decode cX4_simple 90 = .ok (.iadd, 1) := by decide +kernel
theorem dX4_simple_91 : decode cX4_simple 91 = .ok (.istore 8, 2) := by decide +kernel
theorem dX4_simple_93 : decode cX4_simple 93 = .ok (.goto 162, 3) := by decide +kernel
theorem dX4_simple_96 : decode cX4_simple 96 = .ok (.iload 6, 2) := by decide +kernel
theorem dX4_simple_98 : decode cX4_simple 98 = .ok (.iload 7, 2) := by decide +kernel
theorem dX4_simple_100 : decode cX4_simple 100 = .ok (.isub, 1) := by decide +kernel
theorem dX4_simple_101 : decode cX4_simple 101 = .ok (.istore 8, 2) := by decide +kernel
theorem dX4_simple_103 : decode cX4_simple 103 = .ok (.goto 152, 3) := by decide +kernel
theorem dX4_simple_106 : decode cX4_simple 106 = .ok (.aload_n 0, 1) := by decide +kernel
theorem dX4_simple_107 : decode cX4_simple 107 = .ok (.iload_n 1, 1) := by decide +kernel
theorem dX4_simple_108 : decode cX4_simple 108 = .ok (.iload 7, 2) := by decide +kernel
theorem dX4_simple_110 : decode cX4_simple 110 = .ok (.iload 5, 2) := by decide +kernel
theorem dX4_simple_112 : decode cX4_simple 112 = .ok (.iadd, 1) := by decide +kernel
theorem dX4_simple_113 : decode cX4_simple 113 = .ok (.iconst 0, 1) := by decide +kernel
theorem dX4_simple_114 : decode cX4_simple 114 = .ok (.invokevirtual 91, 3) := by decide +kernel
theorem dX4_simple_117 : decode cX4_simple 117 = .ok (.ifCond .eq 21, 3) := by decide +kernel
theorem dX4_simple_120 : decode cX4_simple 120 = .ok (.aload_n 0, 1) := by decide +kernel
theorem dX4_simple_121 : decode cX4_simple 121 = .ok (.getfield 31, 3) := by decide +kernel
theorem dX4_simple_124 : decode cX4_simple 124 = .ok (.bipush 64, 2) := by decide +kernel
theorem dX4_simple_126 : decode cX4_simple 126 = .ok (.iload_n 1, 1) := by decide +kernel
theorem dX4_simple_127 : decode cX4_simple 127 = .ok (.imul, 1) := by decide +kernel
theorem dX4_simple_128 : decode cX4_simple 128 = .ok (.iload 7, 2) := by decide +kernel
theorem dX4_simple_130 : decode cX4_simple 130 = .ok (.iadd, 1) := by decide +kernel
theorem dX4_simple_131 : decode cX4_simple 131 = .ok (.iload 5, 2) := by decide +kernel
theorem dX4_simple_133 : decode cX4_simple 133 = .ok (.iadd, 1) := by decide +kernel
theorem dX4_simple_134 : decode cX4_simple 134 = .ok (.iaload, 1) := by decide +kernel
theorem dX4_simple_135 : decode cX4_simple 135 = .ok (.goto 5, 3) := by decide +kernel
theorem dX4_simple_138 : decode cX4_simple 138 = .ok (.iload 6, 2) := by decide +kernel
theorem dX4_simple_140 : decode cX4_simple 140 = .ok (.istore 8, 2) := by decide +kernel
theorem dX4_simple_142 : decode cX4_simple 142 = .ok (.goto 113, 3) := by decide +kernel
theorem dX4_simple_145 : decode cX4_simple 145 = .ok (.aload_n 0, 1) := by decide +kernel
theorem dX4_simple_146 : decode cX4_simple 146 = .ok (.iload_n 1, 1) := by decide +kernel
theorem dX4_simple_147 : decode cX4_simple 147 = .ok (.iload 7, 2) := by decide +kernel
theorem dX4_simple_149 : decode cX4_simple 149 = .ok (.iload 5, 2) := by decide +kernel
theorem dX4_simple_151 : decode cX4_simple 151 = .ok (.iadd, 1) := by decide +kernel
theorem dX4_simple_152 : decode cX4_simple 152 = .ok (.iconst 1, 1) := by decide +kernel
theorem dX4_simple_153 : decode cX4_simple 153 = .ok (.invokevirtual 91, 3) := by decide +kernel
theorem dX4_simple_156 : decode cX4_simple 156 = .ok (.ifCond .eq 99, 3) := by decide +kernel
theorem dX4_simple_159 : decode cX4_simple 159 = .ok (.aload_n 0, 1) := by decide +kernel
theorem dX4_simple_160 : decode cX4_simple 160 = .ok (.getfield 31, 3) := by decide +kernel
theorem dX4_simple_163 : decode cX4_simple 163 = .ok (.bipush 64, 2) := by decide +kernel
theorem dX4_simple_165 : decode cX4_simple 165 = .ok (.iload_n 1, 1) := by decide +kernel
theorem dX4_simple_166 : decode cX4_simple 166 = .ok (.imul, 1) := by decide +kernel
theorem dX4_simple_167 : decode cX4_simple 167 = .ok (.iload 7, 2) := by decide +kernel
theorem dX4_simple_169 : decode cX4_simple 169 = .ok (.iadd, 1) := by decide +kernel
theorem dX4_simple_170 : decode cX4_simple 170 = .ok (.iload 5, 2) := by decide +kernel
theorem dX4_simple_172 : decode cX4_simple 172 = .ok (.iadd, 1) := by decide +kernel
theorem dX4_simple_173 : decode cX4_simple 173 = .ok (.iload 6, 2) := by decide +kernel
theorem dX4_simple_175 : decode cX4_simple 175 = .ok (.iastore, 1) := by decide +kernel
theorem dX4_simple_176 : decode cX4_simple 176 = .ok (.goto 79, 3) := by decide +kernel
theorem dX4_simple_179 : decode cX4_simple 179 = .ok (.aload_n 0, 1) := by decide +kernel
theorem dX4_simple_180 : decode cX4_simple 180 = .ok (.getfield 25, 3) := by decide +kernel
theorem dX4_simple_183 : decode cX4_simple 183 = .ok (.iload_n 1, 1) := by decide +kernel
theorem dX4_simple_184 : decode cX4_simple 184 = .ok (.iload 6, 2) := by decide +kernel
theorem dX4_simple_186 : decode cX4_simple 186 = .ok (.ifCond .eq 8, 3) := by decide +kernel
theorem dX4_simple_189 : decode cX4_simple 189 = .ok (.iload 5, 2) := by decide +kernel
theorem dX4_simple_191 : decode cX4_simple 191 = .ok (.goto 9, 3) := by decide +kernel
theorem dX4_simple_194 : decode cX4_simple 194 = .ok (.aload_n 0, 1) := by decide +kernel
theorem dX4_simple_195 : decode cX4_simple 195 = .ok (.getfield 25, 3) := by decide +kernel
theorem dX4_simple_198 : decode cX4_simple 198 = .ok (.iload_n 1, 1) := by decide +kernel
theorem dX4_simple_199 : decode cX4_simple 199 = .ok (.iaload, 1) := by decide +kernel
theorem dX4_simple_200 : decode cX4_simple 200 = .ok (.iastore, 1) := by decide +kernel
theorem dX4_simple_201 : decode cX4_simple 201 = .ok (.goto 54, 3) := by decide +kernel
theorem dX4_simple_204 : decode cX4_simple 204 = .ok (.aload_n 0, 1) := by decide +kernel
theorem dX4_simple_205 : decode cX4_simple 205 = .ok (.getfield 25, 3) := by decide +kernel
theorem dX4_simple_208 : decode cX4_simple 208 = .ok (.iload_n 1, 1) := by decide +kernel
theorem dX4_simple_209 : decode cX4_simple 209 = .ok (.iload 6, 2) := by decide +kernel
theorem dX4_simple_211 : decode cX4_simple 211 = .ok (.iload 7, 2) := by decide +kernel
theorem dX4_simple_213 : decode cX4_simple 213 = .ok (.if_icmp .ge 8, 3) := by decide +kernel
theorem dX4_simple_216 : decode cX4_simple 216 = .ok (.iload 5, 2) := by decide +kernel
theorem dX4_simple_218 : decode cX4_simple 218 = .ok (.goto 9, 3) := by decide +kernel
theorem dX4_simple_221 : decode cX4_simple 221 = .ok (.aload_n 0, 1) := by decide +kernel
theorem dX4_simple_222 : decode cX4_simple 222 = .ok (.getfield 25, 3) := by decide +kernel
theorem dX4_simple_225 : decode cX4_simple 225 = .ok (.iload_n 1, 1) := by decide +kernel
theorem dX4_simple_226 : decode cX4_simple 226 = .ok (.iaload, 1) := by decide +kernel
theorem dX4_simple_227 : decode cX4_simple 227 = .ok (.iastore, 1) := by decide +kernel
theorem dX4_simple_228 : decode cX4_simple 228 = .ok (.goto 27, 3) := by decide +kernel
theorem dX4_simple_231 : decode cX4_simple 231 = .ok (.aload_n 0, 1) := by decide +kernel
theorem dX4_simple_232 : decode cX4_simple 232 = .ok (.getfield 41, 3) := by decide +kernel
theorem dX4_simple_235 : decode cX4_simple 235 = .ok (.aload_n 0, 1) := by decide +kernel
theorem dX4_simple_236 : decode cX4_simple 236 = .ok (.getfield 95, 3) := by decide +kernel
theorem dX4_simple_239 : decode cX4_simple 239 = .ok (.bipush 32, 2) := by decide +kernel
theorem dX4_simple_241 : decode cX4_simple 241 = .ok (.irem, 1) := by decide +kernel
theorem dX4_simple_242 : decode cX4_simple 242 = .ok (.iload 6, 2) := by decide +kernel
theorem dX4_simple_244 : decode cX4_simple 244 = .ok (.iastore, 1) := by decide +kernel
theorem dX4_simple_245 : decode cX4_simple 245 = .ok (.aload_n 0, 1) := by decide +kernel
theorem dX4_simple_246 : decode cX4_simple 246 = .ok (.dup, 1) := by decide +kernel
theorem dX4_simple_247 : decode cX4_simple 247 = .ok (.getfield 95, 3) := by decide +kernel
theorem dX4_simple_250 : decode cX4_simple 250 = .ok (.iconst 1, 1) := by decide +kernel
theorem dX4_simple_251 : decode cX4_simple 251 = .ok (.iadd, 1) := by decide +kernel
theorem dX4_simple_252 : decode cX4_simple 252 = .ok (.putfield 95, 3) := by decide +kernel
theorem dX4_simple_255 : decode cX4_simple 255 = .ok (.aload_n 0, 1) := by decide +kernel
theorem dX4_simple_256 : decode cX4_simple 256 = .ok (.getfield 22, 3) := by decide +kernel
theorem dX4_simple_259 : decode cX4_simple 259 = .ok (.bipush 8, 2) := by decide +kernel
theorem dX4_simple_261 : decode cX4_simple 261 = .ok (.iload_n 1, 1) := by decide +kernel
theorem dX4_simple_262 : decode cX4_simple 262 = .ok (.imul, 1) := by decide +kernel
theorem dX4_simple_263 : decode cX4_simple 263 = .ok (.iload_n 3, 1) := by decide +kernel
theorem dX4_simple_264 : decode cX4_simple 264 = .ok (.iadd, 1) := by decide +kernel
theorem dX4_simple_265 : decode cX4_simple 265 = .ok (.iload 8, 2) := by decide +kernel
theorem dX4_simple_267 : decode cX4_simple 267 = .ok (.iastore, 1) := by decide +kernel
theorem dX4_simple_268 : decode cX4_simple 268 = .ok (.iload_n 2, 1) := by decide +kernel
theorem dX4_simple_269 : decode cX4_simple 269 = .ok (.bipush 7, 2) := by decide +kernel
theorem dX4_simple_271 : decode cX4_simple 271 = .ok (.if_icmp .ne 7, 3) := by decide +kernel
theorem dX4_simple_274 : decode cX4_simple 274 = .ok (.iconst 2, 1) := by decide +kernel
theorem dX4_simple_275 : decode cX4_simple 275 = .ok (.goto 4, 3) := by decide +kernel
theorem dX4_simple_278 : decode cX4_simple 278 = .ok (.iconst 1, 1) := by decide +kernel
theorem dX4_simple_279 : decode cX4_simple 279 = .ok (.ireturn, 1) := by decide +kernel
theorem dX4_stage_0 : decode cX4_stage 0 = .ok (.iload_n 1, 1) := by decide +kernel
theorem dX4_stage_1 : decode cX4_stage 1 = .ok (.ifCond .lt 9, 3) := by decide +kernel
theorem dX4_stage_4 : decode cX4_stage 4 = .ok (.iload_n 1, 1) := by decide +kernel
theorem dX4_stage_5 : decode cX4_stage 5 = .ok (.bipush 63, 2) := by decide +kernel
theorem dX4_stage_7 : decode cX4_stage 7 = .ok (.if_icmp .le 5, 3) := by decide +kernel
theorem dX4_stage_10 : decode cX4_stage 10 = .ok (.iconst 0, 1) := by decide +kernel
theorem dX4_stage_11 : decode cX4_stage 11 = .ok (.ireturn, 1) := by decide +kernel
theorem dX4_stage_12 : decode cX4_stage 12 = .ok (.aload_n 0, 1) := by decide +kernel
theorem dX4_stage_13 : decode cX4_stage 13 = .ok (.getfield 7, 3) := by decide +kernel
theorem dX4_stage_16 : decode cX4_stage 16 = .ok (.iload_n 1, 1) := by decide +kernel
theorem dX4_stage_17 : decode cX4_stage 17 = .ok (.iload_n 2, 1) := by decide +kernel
theorem dX4_stage_18 : decode cX4_stage 18 = .ok (.iastore, 1) := by decide +kernel
theorem dX4_stage_19 : decode cX4_stage 19 = .ok (.iconst 1, 1) := by decide +kernel
theorem dX4_stage_20 : decode cX4_stage 20 = .ok (.ireturn, 1) := by decide +kernel
theorem dX4_state_0 : decode cX4_state 0 = .ok (.iload_n 1, 1) := by decide +kernel
theorem dX4_state_1 : decode cX4_state 1 = .ok (.invokestatic 68, 3) := by decide +kernel
theorem dX4_state_4 : decode cX4_state 4 = .ok (.ifCond .eq 12, 3) := by decide +kernel
theorem dX4_state_7 : decode cX4_state 7 = .ok (.aload_n 0, 1) := by decide +kernel
theorem dX4_state_8 : decode cX4_state 8 = .ok (.getfield 13, 3) := by decide +kernel
theorem dX4_state_11 : decode cX4_state 11 = .ok (.iload_n 1, 1) := by decide +kernel
theorem dX4_state_12 : decode cX4_state 12 = .ok (.iaload, 1) := by decide +kernel
theorem dX4_state_13 : decode cX4_state 13 = .ok (.goto 4, 3) := by decide +kernel
theorem dX4_state_16 : decode cX4_state 16 = .ok (.iconst (-1), 1) := by decide +kernel
theorem dX4_state_17 : decode cX4_state 17 = .ok (.ireturn, 1) := by decide +kernel
theorem dX4_step_0 : decode cX4_step 0 = .ok (.aload_n 0, 1) := by decide +kernel
theorem dX4_step_1 : decode cX4_step 1 = .ok (.invokevirtual 113, 3) := by decide +kernel
theorem dX4_step_4 : decode cX4_step 4 = .ok (.ifCond .ne 5, 3) := by decide +kernel
theorem dX4_step_7 : decode cX4_step 7 = .ok (.iconst 0, 1) := by decide +kernel
theorem dX4_step_8 : decode cX4_step 8 = .ok (.ireturn, 1) := by decide +kernel
theorem dX4_step_9 : decode cX4_step 9 = .ok (.aload_n 0, 1) := by decide +kernel
theorem dX4_step_10 : decode cX4_step 10 = .ok (.getfield 37, 3) := by decide +kernel
theorem dX4_step_13 : decode cX4_step 13 = .ok (.istore_n 1, 1) := by decide +kernel
theorem dX4_step_14 : decode cX4_step 14 = .ok (.aload_n 0, 1) := by decide +kernel
theorem dX4_step_15 : decode cX4_step 15 = .ok (.dup, 1) := by decide +kernel
theorem dX4_step_16 : decode cX4_step 16 = .ok (.getfield 88, 3) := by decide +kernel
theorem dX4_step_19 : decode cX4_step 19 = .ok (.iconst 1, 1) := by decide +kernel
theorem dX4_step_20 : decode cX4_step 20 = .ok (.iadd, 1) := by decide +kernel
theorem dX4_step_21 : decode cX4_step 21 = .ok (.putfield 88, 3) := by decide +kernel
theorem dX4_step_24 : decode cX4_step 24 = .ok (.aload_n 0, 1) := by decide +kernel
theorem dX4_step_25 : decode cX4_step 25 = .ok (.iconst 0, 1) := by decide +kernel
theorem dX4_step_26 : decode cX4_step 26 = .ok (.putfield 54, 3) := by decide +kernel
theorem dX4_step_29 : decode cX4_step 29 = .ok (.aload_n 0, 1) := by decide +kernel
theorem dX4_step_30 : decode cX4_step 30 = .ok (.getfield 25, 3) := by decide +kernel
theorem dX4_step_33 : decode cX4_step 33 = .ok (.iload_n 1, 1) := by decide +kernel
theorem dX4_step_34 : decode cX4_step 34 = .ok (.iaload, 1) := by decide +kernel
theorem dX4_step_35 : decode cX4_step 35 = .ok (.istore_n 2, 1) := by decide +kernel
theorem dX4_step_36 : decode cX4_step 36 = .ok (.aload_n 0, 1) := by decide +kernel
theorem dX4_step_37 : decode cX4_step 37 = .ok (.iload_n 1, 1) := by decide +kernel
theorem dX4_step_38 : decode cX4_step 38 = .ok (.iload_n 2, 1) := by decide +kernel
theorem dX4_step_39 : decode cX4_step 39 = .ok (.iconst 0, 1) := by decide +kernel
theorem dX4_step_40 : decode cX4_step 40 = .ok (.invokevirtual 91, 3) := by decide +kernel
theorem dX4_step_43 : decode cX4_step 43 = .ok (.ifCond .eq 38, 3) := by decide +kernel
theorem dX4_step_46 : decode cX4_step 46 = .ok (.aload_n 0, 1) := by decide +kernel
theorem dX4_step_47 : decode cX4_step 47 = .ok (.getfield 25, 3) := by decide +kernel
theorem dX4_step_50 : decode cX4_step 50 = .ok (.iload_n 1, 1) := by decide +kernel
theorem dX4_step_51 : decode cX4_step 51 = .ok (.iload_n 2, 1) := by decide +kernel
theorem dX4_step_52 : decode cX4_step 52 = .ok (.iconst 1, 1) := by decide +kernel
theorem dX4_step_53 : decode cX4_step 53 = .ok (.iadd, 1) := by decide +kernel
theorem dX4_step_54 : decode cX4_step 54 = .ok (.iastore, 1) := by decide +kernel
theorem dX4_step_55 : decode cX4_step 55 = .ok (.aload_n 0, 1) := by decide +kernel
theorem dX4_step_56 : decode cX4_step 56 = .ok (.iload_n 1, 1) := by decide +kernel
theorem dX4_step_57 : decode cX4_step 57 = .ok (.aload_n 0, 1) := by decide +kernel
theorem dX4_step_58 : decode cX4_step 58 = .ok (.getfield 31, 3) := by decide +kernel
theorem dX4_step_61 : decode cX4_step 61 = .ok (.bipush 64, 2) := by decide +kernel
theorem dX4_step_63 : decode cX4_step 63 = .ok (.iload_n 1, 1) := by decide +kernel
theorem dX4_step_64 : decode cX4_step 64 = .ok (.imul, 1) := by decide +kernel
theorem dX4_step_65 : decode cX4_step 65 = .ok (.iload_n 2, 1) := by decide +kernel
theorem dX4_step_66 : decode cX4_step 66 = .ok (.iadd, 1) := by decide +kernel
theorem dX4_step_67 : decode cX4_step 67 = .ok (.iaload, 1) := by decide +kernel
theorem dX4_step_68 : decode cX4_step 68 = .ok (.invokevirtual 117, 3) := by decide +kernel
theorem dX4_step_71 : decode cX4_step 71 = .ok (.istore_n 3, 1) := by decide +kernel
theorem dX4_step_72 : decode cX4_step 72 = .ok (.aload_n 0, 1) := by decide +kernel
theorem dX4_step_73 : decode cX4_step 73 = .ok (.getfield 54, 3) := by decide +kernel
theorem dX4_step_76 : decode cX4_step 76 = .ok (.ifCond .ne 5, 3) := by decide +kernel
theorem dX4_step_79 : decode cX4_step 79 = .ok (.iload_n 3, 1) := by decide +kernel
theorem dX4_step_80 : decode cX4_step 80 = .ok (.ireturn, 1) := by decide +kernel
theorem dX4_step_81 : decode cX4_step 81 = .ok (.aload_n 0, 1) := by decide +kernel
theorem dX4_step_82 : decode cX4_step 82 = .ok (.iload_n 1, 1) := by decide +kernel
theorem dX4_step_83 : decode cX4_step 83 = .ok (.aload_n 0, 1) := by decide +kernel
theorem dX4_step_84 : decode cX4_step 84 = .ok (.getfield 54, 3) := by decide +kernel
theorem dX4_step_87 : decode cX4_step 87 = .ok (.invokevirtual 81, 3) := by decide +kernel
theorem dX4_step_90 : decode cX4_step 90 = .ok (.iconst 5, 1) := by decide +kernel
theorem dX4_step_91 : decode cX4_step 91 = .ok (.ireturn, 1) := by decide +kernel

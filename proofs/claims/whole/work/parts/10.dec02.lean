/-! decode rows (written by program) -/
theorem dX0_take_0 : decode cX0_take 0 = .ok (.iconst 0, 1) := by decide +kernel
theorem dX0_take_1 : decode cX0_take 1 = .ok (.istore_n 1, 1) := by decide +kernel
theorem dX0_take_2 : decode cX0_take 2 = .ok (.iload_n 1, 1) := by decide +kernel
theorem dX0_take_3 : decode cX0_take 3 = .ok (.aload_n 0, 1) := by decide +kernel
theorem dX0_take_4 : decode cX0_take 4 = .ok (.getfield 15, 3) := by decide +kernel
theorem dX0_take_7 : decode cX0_take 7 = .ok (.if_icmp .ge 63, 3) := by decide +kernel
theorem dX0_take_10 : decode cX0_take 10 = .ok (.aload_n 0, 1) := by decide +kernel
theorem dX0_take_11 : decode cX0_take 11 = .ok (.getfield 22, 3) := by decide +kernel
theorem dX0_take_14 : decode cX0_take 14 = .ok (.iload_n 1, 1) := by decide +kernel
theorem dX0_take_15 : decode cX0_take 15 = .ok (.iaload, 1) := by decide +kernel
theorem dX0_take_16 : decode cX0_take 16 = .ok (.ifCond .ne 48, 3) := by decide +kernel
theorem dX0_take_19 : decode cX0_take 19 = .ok (.aload_n 0, 1) := by decide +kernel
theorem dX0_take_20 : decode cX0_take 20 = .ok (.getfield 22, 3) := by decide +kernel
theorem dX0_take_23 : decode cX0_take 23 = .ok (.iload_n 1, 1) := by decide +kernel
theorem dX0_take_24 : decode cX0_take 24 = .ok (.iconst 1, 1) := by decide +kernel
theorem dX0_take_25 : decode cX0_take 25 = .ok (.iastore, 1) := by decide +kernel
theorem dX0_take_26 : decode cX0_take 26 = .ok (.aload_n 0, 1) := by decide +kernel
theorem dX0_take_27 : decode cX0_take 27 = .ok (.dup, 1) := by decide +kernel
theorem dX0_take_28 : decode cX0_take 28 = .ok (.getfield 9, 3) := by decide +kernel
theorem dX0_take_31 : decode cX0_take 31 = .ok (.iconst 1, 1) := by decide +kernel
theorem dX0_take_32 : decode cX0_take 32 = .ok (.iadd, 1) := by decide +kernel
theorem dX0_take_33 : decode cX0_take 33 = .ok (.putfield 9, 3) := by decide +kernel
theorem dX0_take_36 : decode cX0_take 36 = .ok (.iconst 0, 1) := by decide +kernel
theorem dX0_take_37 : decode cX0_take 37 = .ok (.istore_n 2, 1) := by decide +kernel
theorem dX0_take_38 : decode cX0_take 38 = .ok (.iload_n 2, 1) := by decide +kernel
theorem dX0_take_39 : decode cX0_take 39 = .ok (.bipush 8, 2) := by decide +kernel
theorem dX0_take_41 : decode cX0_take 41 = .ok (.if_icmp .ge 21, 3) := by decide +kernel
theorem dX0_take_44 : decode cX0_take 44 = .ok (.aload_n 0, 1) := by decide +kernel
theorem dX0_take_45 : decode cX0_take 45 = .ok (.getfield 18, 3) := by decide +kernel
theorem dX0_take_48 : decode cX0_take 48 = .ok (.iload_n 1, 1) := by decide +kernel
theorem dX0_take_49 : decode cX0_take 49 = .ok (.bipush 8, 2) := by decide +kernel
theorem dX0_take_51 : decode cX0_take 51 = .ok (.imul, 1) := by decide +kernel
theorem dX0_take_52 : decode cX0_take 52 = .ok (.iload_n 2, 1) := by decide +kernel
theorem dX0_take_53 : decode cX0_take 53 = .ok (.iadd, 1) := by decide +kernel
theorem dX0_take_54 : decode cX0_take 54 = .ok (.iconst 0, 1) := by decide +kernel
theorem dX0_take_55 : decode cX0_take 55 = .ok (.iastore, 1) := by decide +kernel
theorem dX0_take_56 : decode cX0_take 56 = .ok (.iinc 2 1, 3) := by decide +kernel
theorem dX0_take_59 : decode cX0_take 59 = .ok (.goto (-21), 3) := by decide +kernel
theorem dX0_take_62 : decode cX0_take 62 = .ok (.iload_n 1, 1) := by decide +kernel
theorem dX0_take_63 : decode cX0_take 63 = .ok (.ireturn, 1) := by decide +kernel
theorem dX0_take_64 : decode cX0_take 64 = .ok (.iinc 1 1, 3) := by decide +kernel
theorem dX0_take_67 : decode cX0_take 67 = .ok (.goto (-65), 3) := by decide +kernel
theorem dX0_take_70 : decode cX0_take 70 = .ok (.iconst (-1), 1) := by decide +kernel
theorem dX0_take_71 : decode cX0_take 71 = .ok (.ireturn, 1) := by decide +kernel
theorem dX0_unused_0 : decode cX0_unused 0 = .ok (.aload_n 0, 1) := by decide +kernel
theorem dX0_unused_1 : decode cX0_unused 1 = .ok (.getfield 15, 3) := by decide +kernel
theorem dX0_unused_4 : decode cX0_unused 4 = .ok (.aload_n 0, 1) := by decide +kernel
theorem dX0_unused_5 : decode cX0_unused 5 = .ok (.getfield 9, 3) := by decide +kernel
theorem dX0_unused_8 : decode cX0_unused 8 = .ok (.isub, 1) := by decide +kernel
theorem dX0_unused_9 : decode cX0_unused 9 = .ok (.ireturn, 1) := by decide +kernel
theorem dX1_append_0 : decode cX1_append 0 = .ok (.aload_n 0, 1) := by decide +kernel
theorem dX1_append_1 : decode cX1_append 1 = .ok (.getfield 9, 3) := by decide +kernel
theorem dX1_append_4 : decode cX1_append 4 = .ok (.aload_n 0, 1) := by decide +kernel
theorem dX1_append_5 : decode cX1_append 5 = .ok (.getfield 15, 3) := by decide +kernel
theorem dX1_append_8 : decode cX1_append 8 = .ok (.bipush 32, 2) := by decide +kernel
theorem dX1_append_10 : decode cX1_append 10 = .ok (.irem, 1) := by decide +kernel
theorem dX1_append_11 : decode cX1_append 11 = .ok (.iload_n 1, 1) := by decide +kernel
theorem dX1_append_12 : decode cX1_append 12 = .ok (.iastore, 1) := by decide +kernel
theorem dX1_append_13 : decode cX1_append 13 = .ok (.aload_n 0, 1) := by decide +kernel
theorem dX1_append_14 : decode cX1_append 14 = .ok (.dup, 1) := by decide +kernel
theorem dX1_append_15 : decode cX1_append 15 = .ok (.getfield 15, 3) := by decide +kernel
theorem dX1_append_18 : decode cX1_append 18 = .ok (.iconst 1, 1) := by decide +kernel
theorem dX1_append_19 : decode cX1_append 19 = .ok (.iadd, 1) := by decide +kernel
theorem dX1_append_20 : decode cX1_append 20 = .ok (.putfield 15, 3) := by decide +kernel
theorem dX1_append_23 : decode cX1_append 23 = .ok (.return_, 1) := by decide +kernel
theorem dX1_init_0 : decode cX1_init 0 = .ok (.aload_n 0, 1) := by decide +kernel
theorem dX1_init_1 : decode cX1_init 1 = .ok (.invokespecial 3, 3) := by decide +kernel
theorem dX1_init_4 : decode cX1_init 4 = .ok (.aload_n 0, 1) := by decide +kernel
theorem dX1_init_5 : decode cX1_init 5 = .ok (.bipush 32, 2) := by decide +kernel
theorem dX1_init_7 : decode cX1_init 7 = .ok (.newarray .int, 2) := by decide +kernel
theorem dX1_init_9 : decode cX1_init 9 = .ok (.putfield 9, 3) := by decide +kernel
theorem dX1_init_12 : decode cX1_init 12 = .ok (.aload_n 0, 1) := by decide +kernel
theorem dX1_init_13 : decode cX1_init 13 = .ok (.iconst 0, 1) := by decide +kernel
theorem dX1_init_14 : decode cX1_init 14 = .ok (.putfield 15, 3) := by decide +kernel
theorem dX1_init_17 : decode cX1_init 17 = .ok (.return_, 1) := by decide +kernel
theorem dX1_latest_0 : decode cX1_latest 0 = .ok (.iload_n 1, 1) := by decide +kernel
theorem dX1_latest_1 : decode cX1_latest 1 = .ok (.ifCond .lt 17, 3) := by decide +kernel
theorem dX1_latest_4 : decode cX1_latest 4 = .ok (.iload_n 1, 1) := by decide +kernel
theorem dX1_latest_5 : decode cX1_latest 5 = .ok (.bipush 32, 2) := by decide +kernel
theorem dX1_latest_7 : decode cX1_latest 7 = .ok (.if_icmp .ge 11, 3) := by decide +kernel
theorem dX1_latest_10 : decode cX1_latest 10 = .ok (.iload_n 1, 1) := by decide +kernel
theorem dX1_latest_11 : decode cX1_latest 11 = .ok (.aload_n 0, 1) := by decide +kernel
theorem dX1_latest_12 : decode cX1_latest 12 = .ok (.getfield 15, 3) := by decide +kernel
theorem dX1_latest_15 : decode cX1_latest 15 = .ok (.if_icmp .lt 5, 3) := by decide +kernel
theorem dX1_latest_18 : decode cX1_latest 18 = .ok (.iconst 0, 1) := by decide +kernel
theorem dX1_latest_19 : decode cX1_latest 19 = .ok (.ireturn, 1) := by decide +kernel
theorem dX1_latest_20 : decode cX1_latest 20 = .ok (.aload_n 0, 1) := by decide +kernel
theorem dX1_latest_21 : decode cX1_latest 21 = .ok (.getfield 9, 3) := by decide +kernel
theorem dX1_latest_24 : decode cX1_latest 24 = .ok (.aload_n 0, 1) := by decide +kernel
theorem dX1_latest_25 : decode cX1_latest 25 = .ok (.getfield 15, 3) := by decide +kernel
theorem dX1_latest_28 : decode cX1_latest 28 = .ok (.iconst 1, 1) := by decide +kernel
theorem dX1_latest_29 : decode cX1_latest 29 = .ok (.isub, 1) := by decide +kernel
theorem dX1_latest_30 : decode cX1_latest 30 = .ok (.iload_n 1, 1) := by decide +kernel
theorem dX1_latest_31 : decode cX1_latest 31 = .ok (.isub, 1) := by decide +kernel
theorem dX1_latest_32 : decode cX1_latest 32 = .ok (.bipush 32, 2) := by decide +kernel
theorem dX1_latest_34 : decode cX1_latest 34 = .ok (.irem, 1) := by decide +kernel
theorem dX1_latest_35 : decode cX1_latest 35 = .ok (.iaload, 1) := by decide +kernel
theorem dX1_latest_36 : decode cX1_latest 36 = .ok (.ireturn, 1) := by decide +kernel
theorem dX2_begin_0 : decode cX2_begin 0 = .ok (.aload_n 0, 1) := by decide +kernel
theorem dX2_begin_1 : decode cX2_begin 1 = .ok (.iconst 1, 1) := by decide +kernel
theorem dX2_begin_2 : decode cX2_begin 2 = .ok (.putfield 9, 3) := by decide +kernel
theorem dX2_begin_5 : decode cX2_begin 5 = .ok (.aload_n 0, 1) := by decide +kernel
theorem dX2_begin_6 : decode cX2_begin 6 = .ok (.iload_n 1, 1) := by decide +kernel
theorem dX2_begin_7 : decode cX2_begin 7 = .ok (.putfield 15, 3) := by decide +kernel
theorem dX2_begin_10 : decode cX2_begin 10 = .ok (.aload_n 0, 1) := by decide +kernel
theorem dX2_begin_11 : decode cX2_begin 11 = .ok (.iconst 0, 1) := by decide +kernel
theorem dX2_begin_12 : decode cX2_begin 12 = .ok (.putfield 21, 3) := by decide +kernel
theorem dX2_begin_15 : decode cX2_begin 15 = .ok (.iconst 0, 1) := by decide +kernel
theorem dX2_begin_16 : decode cX2_begin 16 = .ok (.istore_n 2, 1) := by decide +kernel
theorem dX2_begin_17 : decode cX2_begin 17 = .ok (.iload_n 2, 1) := by decide +kernel
theorem dX2_begin_18 : decode cX2_begin 18 = .ok (.bipush 8, 2) := by decide +kernel
theorem dX2_begin_20 : decode cX2_begin 20 = .ok (.if_icmp .ge 16, 3) := by decide +kernel
theorem dX2_begin_23 : decode cX2_begin 23 = .ok (.aload_n 0, 1) := by decide +kernel
theorem dX2_begin_24 : decode cX2_begin 24 = .ok (.getfield 27, 3) := by decide +kernel
theorem dX2_begin_27 : decode cX2_begin 27 = .ok (.iload_n 2, 1) := by decide +kernel
theorem dX2_begin_28 : decode cX2_begin 28 = .ok (.iconst 0, 1) := by decide +kernel
theorem dX2_begin_29 : decode cX2_begin 29 = .ok (.iastore, 1) := by decide +kernel
theorem dX2_begin_30 : decode cX2_begin 30 = .ok (.iinc 2 1, 3) := by decide +kernel
theorem dX2_begin_33 : decode cX2_begin 33 = .ok (.goto (-16), 3) := by decide +kernel
theorem dX2_begin_36 : decode cX2_begin 36 = .ok (.return_, 1) := by decide +kernel
theorem dX2_holds_0 : decode cX2_holds 0 = .ok (.iload_n 1, 1) := by decide +kernel
theorem dX2_holds_1 : decode cX2_holds 1 = .ok (.ifCond .lt 15, 3) := by decide +kernel
theorem dX2_holds_4 : decode cX2_holds 4 = .ok (.iload_n 1, 1) := by decide +kernel
theorem dX2_holds_5 : decode cX2_holds 5 = .ok (.aload_n 0, 1) := by decide +kernel
theorem dX2_holds_6 : decode cX2_holds 6 = .ok (.getfield 24, 3) := by decide +kernel
theorem dX2_holds_9 : decode cX2_holds 9 = .ok (.if_icmp .ge 7, 3) := by decide +kernel
theorem dX2_holds_12 : decode cX2_holds 12 = .ok (.iconst 1, 1) := by decide +kernel
theorem dX2_holds_13 : decode cX2_holds 13 = .ok (.goto 4, 3) := by decide +kernel
theorem dX2_holds_16 : decode cX2_holds 16 = .ok (.iconst 0, 1) := by decide +kernel
theorem dX2_holds_17 : decode cX2_holds 17 = .ok (.ireturn, 1) := by decide +kernel
theorem dX2_init_0 : decode cX2_init 0 = .ok (.aload_n 0, 1) := by decide +kernel
theorem dX2_init_1 : decode cX2_init 1 = .ok (.invokespecial 3, 3) := by decide +kernel
theorem dX2_init_4 : decode cX2_init 4 = .ok (.aload_n 0, 1) := by decide +kernel
theorem dX2_init_5 : decode cX2_init 5 = .ok (.iconst 0, 1) := by decide +kernel
theorem dX2_init_6 : decode cX2_init 6 = .ok (.putfield 9, 3) := by decide +kernel
theorem dX2_init_9 : decode cX2_init 9 = .ok (.aload_n 0, 1) := by decide +kernel
theorem dX2_init_10 : decode cX2_init 10 = .ok (.iconst (-1), 1) := by decide +kernel
theorem dX2_init_11 : decode cX2_init 11 = .ok (.putfield 15, 3) := by decide +kernel
theorem dX2_init_14 : decode cX2_init 14 = .ok (.aload_n 0, 1) := by decide +kernel
theorem dX2_init_15 : decode cX2_init 15 = .ok (.iconst 0, 1) := by decide +kernel
theorem dX2_init_16 : decode cX2_init 16 = .ok (.putfield 18, 3) := by decide +kernel
theorem dX2_init_19 : decode cX2_init 19 = .ok (.aload_n 0, 1) := by decide +kernel
theorem dX2_init_20 : decode cX2_init 20 = .ok (.iconst 0, 1) := by decide +kernel
theorem dX2_init_21 : decode cX2_init 21 = .ok (.putfield 21, 3) := by decide +kernel
theorem dX2_init_24 : decode cX2_init 24 = .ok (.aload_n 0, 1) := by decide +kernel
theorem dX2_init_25 : decode cX2_init 25 = .ok (.iconst 0, 1) := by decide +kernel
theorem dX2_init_26 : decode cX2_init 26 = .ok (.putfield 24, 3) := by decide +kernel
theorem dX2_init_29 : decode cX2_init 29 = .ok (.aload_n 0, 1) := by decide +kernel
theorem dX2_init_30 : decode cX2_init 30 = .ok (.bipush 8, 2) := by decide +kernel
theorem dX2_init_32 : decode cX2_init 32 = .ok (.newarray .int, 2) := by decide +kernel
theorem dX2_init_34 : decode cX2_init 34 = .ok (.putfield 27, 3) := by decide +kernel
theorem dX2_init_37 : decode cX2_init 37 = .ok (.aload_n 0, 1) := by decide +kernel
theorem dX2_init_38 : decode cX2_init 38 = .ok (.bipush 8, 2) := by decide +kernel
theorem dX2_init_40 : decode cX2_init 40 = .ok (.newarray .int, 2) := by decide +kernel
theorem dX2_init_42 : decode cX2_init 42 = .ok (.putfield 31, 3) := by decide +kernel
theorem dX2_init_45 : decode cX2_init 45 = .ok (.iconst 0, 1) := by decide +kernel
theorem dX2_init_46 : decode cX2_init 46 = .ok (.istore_n 1, 1) := by decide +kernel
theorem dX2_init_47 : decode cX2_init 47 = .ok (.iload_n 1, 1) := by decide +kernel
theorem dX2_init_48 : decode cX2_init 48 = .ok (.bipush 8, 2) := by decide +kernel
theorem dX2_init_50 : decode cX2_init 50 = .ok (.if_icmp .ge 16, 3) := by decide +kernel
theorem dX2_init_53 : decode cX2_init 53 = .ok (.aload_n 0, 1) := by decide +kernel
theorem dX2_init_54 : decode cX2_init 54 = .ok (.getfield 31, 3) := by decide +kernel
theorem dX2_init_57 : decode cX2_init 57 = .ok (.iload_n 1, 1) := by decide +kernel
theorem dX2_init_58 : decode cX2_init 58 = .ok (.iconst (-1), 1) := by decide +kernel
theorem dX2_init_59 : decode cX2_init 59 = .ok (.iastore, 1) := by decide +kernel
theorem dX2_init_60 : decode cX2_init 60 = .ok (.iinc 1 1, 3) := by decide +kernel
theorem dX2_init_63 : decode cX2_init 63 = .ok (.goto (-16), 3) := by decide +kernel
theorem dX2_init_66 : decode cX2_init 66 = .ok (.return_, 1) := by decide +kernel
theorem dX2_vacate_0 : decode cX2_vacate 0 = .ok (.aload_n 0, 1) := by decide +kernel
theorem dX2_vacate_1 : decode cX2_vacate 1 = .ok (.iconst 0, 1) := by decide +kernel
theorem dX2_vacate_2 : decode cX2_vacate 2 = .ok (.putfield 9, 3) := by decide +kernel
theorem dX2_vacate_5 : decode cX2_vacate 5 = .ok (.aload_n 0, 1) := by decide +kernel
theorem dX2_vacate_6 : decode cX2_vacate 6 = .ok (.iconst (-1), 1) := by decide +kernel
theorem dX2_vacate_7 : decode cX2_vacate 7 = .ok (.putfield 15, 3) := by decide +kernel
theorem dX2_vacate_10 : decode cX2_vacate 10 = .ok (.aload_n 0, 1) := by decide +kernel
theorem dX2_vacate_11 : decode cX2_vacate 11 = .ok (.getfield 18, 3) := by decide +kernel
theorem dX2_vacate_14 : decode cX2_vacate 14 = .ok (.ireturn, 1) := by decide +kernel
theorem dX3_clearFrom_0 : decode cX3_clearFrom 0 = .ok (.iload_n 2, 1) := by decide +kernel
theorem dX3_clearFrom_1 : decode cX3_clearFrom 1 = .ok (.bipush 8, 2) := by decide +kernel
theorem dX3_clearFrom_3 : decode cX3_clearFrom 3 = .ok (.idiv, 1) := by decide +kernel
theorem dX3_clearFrom_4 : decode cX3_clearFrom 4 = .ok (.iconst 1, 1) := by decide +kernel
theorem dX3_clearFrom_5 : decode cX3_clearFrom 5 = .ok (.iadd, 1) := by decide +kernel
theorem dX3_clearFrom_6 : decode cX3_clearFrom 6 = .ok (.bipush 8, 2) := by decide +kernel
theorem dX3_clearFrom_8 : decode cX3_clearFrom 8 = .ok (.imul, 1) := by decide +kernel
theorem dX3_clearFrom_9 : decode cX3_clearFrom 9 = .ok (.istore_n 3, 1) := by decide +kernel
theorem dX3_clearFrom_10 : decode cX3_clearFrom 10 = .ok (.iload_n 2, 1) := by decide +kernel
theorem dX3_clearFrom_11 : decode cX3_clearFrom 11 = .ok (.istore 4, 2) := by decide +kernel
theorem dX3_clearFrom_13 : decode cX3_clearFrom 13 = .ok (.iload 4, 2) := by decide +kernel
theorem dX3_clearFrom_15 : decode cX3_clearFrom 15 = .ok (.iload_n 3, 1) := by decide +kernel
theorem dX3_clearFrom_16 : decode cX3_clearFrom 16 = .ok (.if_icmp .ge 17, 3) := by decide +kernel
theorem dX3_clearFrom_19 : decode cX3_clearFrom 19 = .ok (.aload_n 0, 1) := by decide +kernel
theorem dX3_clearFrom_20 : decode cX3_clearFrom 20 = .ok (.aload_n 1, 1) := by decide +kernel
theorem dX3_clearFrom_21 : decode cX3_clearFrom 21 = .ok (.iload 4, 2) := by decide +kernel
theorem dX3_clearFrom_23 : decode cX3_clearFrom 23 = .ok (.iconst 0, 1) := by decide +kernel
theorem dX3_clearFrom_24 : decode cX3_clearFrom 24 = .ok (.invokevirtual 63, 3) := by decide +kernel
theorem dX3_clearFrom_27 : decode cX3_clearFrom 27 = .ok (.iinc 4 1, 3) := by decide +kernel
theorem dX3_clearFrom_30 : decode cX3_clearFrom 30 = .ok (.goto (-17), 3) := by decide +kernel
theorem dX3_clearFrom_33 : decode cX3_clearFrom 33 = .ok (.return_, 1) := by decide +kernel
theorem dX3_code_0 : decode cX3_code 0 = .ok (.aload_n 0, 1) := by decide +kernel
theorem dX3_code_1 : decode cX3_code 1 = .ok (.iload_n 1, 1) := by decide +kernel
theorem dX3_code_2 : decode cX3_code 2 = .ok (.invokevirtual 78, 3) := by decide +kernel
theorem dX3_code_5 : decode cX3_code 5 = .ok (.ifCond .eq 15, 3) := by decide +kernel
theorem dX3_code_8 : decode cX3_code 8 = .ok (.aload_n 0, 1) := by decide +kernel
theorem dX3_code_9 : decode cX3_code 9 = .ok (.getfield 20, 3) := by decide +kernel
theorem dX3_code_12 : decode cX3_code 12 = .ok (.iload_n 1, 1) := by decide +kernel
theorem dX3_code_13 : decode cX3_code 13 = .ok (.aaload, 1) := by decide +kernel
theorem dX3_code_14 : decode cX3_code 14 = .ok (.getfield 93, 3) := by decide +kernel
theorem dX3_code_17 : decode cX3_code 17 = .ok (.goto 4, 3) := by decide +kernel
theorem dX3_code_20 : decode cX3_code 20 = .ok (.iconst 0, 1) := by decide +kernel
theorem dX3_code_21 : decode cX3_code 21 = .ok (.ireturn, 1) := by decide +kernel
theorem dX3_doKernelOp_0 : decode cX3_doKernelOp 0 = .ok (.aload_n 0, 1) := by decide +kernel
theorem dX3_doKernelOp_1 : decode cX3_doKernelOp 1 = .ok (.getfield 20, 3) := by decide +kernel
theorem dX3_doKernelOp_4 : decode cX3_doKernelOp 4 = .ok (.iload_n 1, 1) := by decide +kernel
theorem dX3_doKernelOp_5 : decode cX3_doKernelOp 5 = .ok (.aaload, 1) := by decide +kernel
theorem dX3_doKernelOp_6 : decode cX3_doKernelOp 6 = .ok (.astore 5, 2) := by decide +kernel
theorem dX3_doKernelOp_8 : decode cX3_doKernelOp 8 = .ok (.iload_n 2, 1) := by decide +kernel
theorem dX3_doKernelOp_9 : decode cX3_doKernelOp 9 = .ok (.tableswitch 95 8 13 #[39, 46, 55, 68, 75, 85], 39) := by decide +kernel
theorem dX3_doKernelOp_48 : decode cX3_doKernelOp 48 = .ok (.aload_n 0, 1) := by decide +kernel
theorem dX3_doKernelOp_49 : decode cX3_doKernelOp 49 = .ok (.iload_n 1, 1) := by decide +kernel
theorem dX3_doKernelOp_50 : decode cX3_doKernelOp 50 = .ok (.iload_n 3, 1) := by decide +kernel
theorem dX3_doKernelOp_51 : decode cX3_doKernelOp 51 = .ok (.invokevirtual 159, 3) := by decide +kernel
theorem dX3_doKernelOp_54 : decode cX3_doKernelOp 54 = .ok (.ireturn, 1) := by decide +kernel
theorem dX3_doKernelOp_55 : decode cX3_doKernelOp 55 = .ok (.aload_n 0, 1) := by decide +kernel
theorem dX3_doKernelOp_56 : decode cX3_doKernelOp 56 = .ok (.iload_n 1, 1) := by decide +kernel
theorem dX3_doKernelOp_57 : decode cX3_doKernelOp 57 = .ok (.iload_n 3, 1) := by decide +kernel
theorem dX3_doKernelOp_58 : decode cX3_doKernelOp 58 = .ok (.iload 4, 2) := by decide +kernel
theorem dX3_doKernelOp_60 : decode cX3_doKernelOp 60 = .ok (.invokevirtual 162, 3) := by decide +kernel
theorem dX3_doKernelOp_63 : decode cX3_doKernelOp 63 = .ok (.ireturn, 1) := by decide +kernel
theorem dX3_doKernelOp_64 : decode cX3_doKernelOp 64 = .ok (.aload_n 0, 1) := by decide +kernel
theorem dX3_doKernelOp_65 : decode cX3_doKernelOp 65 = .ok (.iload_n 1, 1) := by decide +kernel
theorem dX3_doKernelOp_66 : decode cX3_doKernelOp 66 = .ok (.aload 5, 2) := by decide +kernel
theorem dX3_doKernelOp_68 : decode cX3_doKernelOp 68 = .ok (.getfield 103, 3) := by decide +kernel
theorem dX3_doKernelOp_71 : decode cX3_doKernelOp 71 = .ok (.iload_n 3, 1) := by decide +kernel
theorem dX3_doKernelOp_72 : decode cX3_doKernelOp 72 = .ok (.iaload, 1) := by decide +kernel
theorem dX3_doKernelOp_73 : decode cX3_doKernelOp 73 = .ok (.invokevirtual 74, 3) := by decide +kernel
theorem dX3_doKernelOp_76 : decode cX3_doKernelOp 76 = .ok (.ireturn, 1) := by decide +kernel
theorem dX3_doKernelOp_77 : decode cX3_doKernelOp 77 = .ok (.aload_n 0, 1) := by decide +kernel
theorem dX3_doKernelOp_78 : decode cX3_doKernelOp 78 = .ok (.iload_n 1, 1) := by decide +kernel
theorem dX3_doKernelOp_79 : decode cX3_doKernelOp 79 = .ok (.iload_n 3, 1) := by decide +kernel
theorem dX3_doKernelOp_80 : decode cX3_doKernelOp 80 = .ok (.invokevirtual 165, 3) := by decide +kernel
theorem dX3_doKernelOp_83 : decode cX3_doKernelOp 83 = .ok (.ireturn, 1) := by decide +kernel
theorem dX3_doKernelOp_84 : decode cX3_doKernelOp 84 = .ok (.aload_n 0, 1) := by decide +kernel
theorem dX3_doKernelOp_85 : decode cX3_doKernelOp 85 = .ok (.aload_n 0, 1) := by decide +kernel
theorem dX3_doKernelOp_86 : decode cX3_doKernelOp 86 = .ok (.getfield 36, 3) := by decide +kernel
theorem dX3_doKernelOp_89 : decode cX3_doKernelOp 89 = .ok (.putfield 43, 3) := by decide +kernel
theorem dX3_doKernelOp_92 : decode cX3_doKernelOp 92 = .ok (.iconst 1, 1) := by decide +kernel
theorem dX3_doKernelOp_93 : decode cX3_doKernelOp 93 = .ok (.ireturn, 1) := by decide +kernel
theorem dX3_doKernelOp_94 : decode cX3_doKernelOp 94 = .ok (.aload 5, 2) := by decide +kernel
theorem dX3_doKernelOp_96 : decode cX3_doKernelOp 96 = .ok (.getfield 103, 3) := by decide +kernel
theorem dX3_doKernelOp_99 : decode cX3_doKernelOp 99 = .ok (.iload_n 3, 1) := by decide +kernel
theorem dX3_doKernelOp_100 : decode cX3_doKernelOp 100 = .ok (.iload_n 1, 1) := by decide +kernel
theorem dX3_doKernelOp_101 : decode cX3_doKernelOp 101 = .ok (.iastore, 1) := by decide +kernel
theorem dX3_doKernelOp_102 : decode cX3_doKernelOp 102 = .ok (.iconst 1, 1) := by decide +kernel
theorem dX3_doKernelOp_103 : decode cX3_doKernelOp 103 = .ok (.ireturn, 1) := by decide +kernel
theorem dX3_doKernelOp_104 : decode cX3_doKernelOp 104 = .ok (.aload_n 0, 1) := by decide +kernel
theorem dX3_doKernelOp_105 : decode cX3_doKernelOp 105 = .ok (.iload_n 1, 1) := by decide +kernel
theorem dX3_doKernelOp_106 : decode cX3_doKernelOp 106 = .ok (.bipush (-12), 2) := by decide +kernel
theorem dX3_doKernelOp_108 : decode cX3_doKernelOp 108 = .ok (.invokevirtual 74, 3) := by decide +kernel
theorem dX3_doKernelOp_111 : decode cX3_doKernelOp 111 = .ok (.ireturn, 1) := by decide +kernel
theorem dX3_doOwnOp_0 : decode cX3_doOwnOp 0 = .ok (.aload_n 0, 1) := by decide +kernel
theorem dX3_doOwnOp_1 : decode cX3_doOwnOp 1 = .ok (.getfield 20, 3) := by decide +kernel
theorem dX3_doOwnOp_4 : decode cX3_doOwnOp 4 = .ok (.iload_n 1, 1) := by decide +kernel
theorem dX3_doOwnOp_5 : decode cX3_doOwnOp 5 = .ok (.aaload, 1) := by decide +kernel
theorem dX3_doOwnOp_6 : decode cX3_doOwnOp 6 = .ok (.astore 6, 2) := by decide +kernel
theorem dX3_doOwnOp_8 : decode cX3_doOwnOp 8 = .ok (.aload 6, 2) := by decide +kernel
theorem dX3_doOwnOp_10 : decode cX3_doOwnOp 10 = .ok (.getfield 103, 3) := by decide +kernel
theorem dX3_doOwnOp_13 : decode cX3_doOwnOp 13 = .ok (.astore 7, 2) := by decide +kernel
theorem dX3_doOwnOp_15 : decode cX3_doOwnOp 15 = .ok (.iload_n 2, 1) := by decide +kernel
theorem dX3_doOwnOp_16 : decode cX3_doOwnOp 16 = .ok (.tableswitch 162 0 6 #[44, 52, 71, 87, 102, 117, 137], 44) := by decide +kernel
theorem dX3_doOwnOp_60 : decode cX3_doOwnOp 60 = .ok (.aload 7, 2) := by decide +kernel
theorem dX3_doOwnOp_62 : decode cX3_doOwnOp 62 = .ok (.iload_n 3, 1) := by decide +kernel
theorem dX3_doOwnOp_63 : decode cX3_doOwnOp 63 = .ok (.iload 5, 2) := by decide +kernel
theorem dX3_doOwnOp_65 : decode cX3_doOwnOp 65 = .ok (.iastore, 1) := by decide +kernel
theorem dX3_doOwnOp_66 : decode cX3_doOwnOp 66 = .ok (.iconst 1, 1) := by decide +kernel
theorem dX3_doOwnOp_67 : decode cX3_doOwnOp 67 = .ok (.ireturn, 1) := by decide +kernel
theorem dX3_doOwnOp_68 : decode cX3_doOwnOp 68 = .ok (.aload 7, 2) := by decide +kernel
theorem dX3_doOwnOp_70 : decode cX3_doOwnOp 70 = .ok (.iload_n 3, 1) := by decide +kernel
theorem dX3_doOwnOp_71 : decode cX3_doOwnOp 71 = .ok (.aload 7, 2) := by decide +kernel
theorem dX3_doOwnOp_73 : decode cX3_doOwnOp 73 = .ok (.iload_n 3, 1) := by decide +kernel
theorem dX3_doOwnOp_74 : decode cX3_doOwnOp 74 = .ok (.iaload, 1) := by decide +kernel
theorem dX3_doOwnOp_75 : decode cX3_doOwnOp 75 = .ok (.aload 7, 2) := by decide +kernel
theorem dX3_doOwnOp_77 : decode cX3_doOwnOp 77 = .ok (.iload 4, 2) := by decide +kernel
theorem dX3_doOwnOp_79 : decode cX3_doOwnOp 79 = .ok (.iaload, 1) := by decide +kernel
theorem dX3_doOwnOp_80 : decode cX3_doOwnOp 80 = .ok (.iadd, 1) := by decide +kernel
theorem dX3_doOwnOp_81 : decode cX3_doOwnOp 81 = .ok (.iload 5, 2) := by decide +kernel
theorem dX3_doOwnOp_83 : decode cX3_doOwnOp 83 = .ok (.iadd, 1) := by decide +kernel
theorem dX3_doOwnOp_84 : decode cX3_doOwnOp 84 = .ok (.iastore, 1) := by decide +kernel
theorem dX3_doOwnOp_85 : decode cX3_doOwnOp 85 = .ok (.iconst 1, 1) := by decide +kernel
theorem dX3_doOwnOp_86 : decode cX3_doOwnOp 86 = .ok (.ireturn, 1) := by decide +kernel
theorem dX3_doOwnOp_87 : decode cX3_doOwnOp 87 = .ok (.aload 7, 2) := by decide +kernel
theorem dX3_doOwnOp_89 : decode cX3_doOwnOp 89 = .ok (.iload_n 3, 1) := by decide +kernel
theorem dX3_doOwnOp_90 : decode cX3_doOwnOp 90 = .ok (.aload 7, 2) := by decide +kernel
theorem dX3_doOwnOp_92 : decode cX3_doOwnOp 92 = .ok (.iload_n 3, 1) := by decide +kernel
theorem dX3_doOwnOp_93 : decode cX3_doOwnOp 93 = .ok (.iaload, 1) := by decide +kernel
theorem dX3_doOwnOp_94 : decode cX3_doOwnOp 94 = .ok (.aload 7, 2) := by decide +kernel
theorem dX3_doOwnOp_96 : decode cX3_doOwnOp 96 = .ok (.iload 4, 2) := by decide +kernel
theorem dX3_doOwnOp_98 : decode cX3_doOwnOp 98 = .ok (.iaload, 1) := by decide +kernel
theorem dX3_doOwnOp_99 : decode cX3_doOwnOp 99 = .ok (.isub, 1) := by decide +kernel
theorem dX3_doOwnOp_100 : decode cX3_doOwnOp 100 = .ok (.iastore, 1) := by decide +kernel
theorem dX3_doOwnOp_101 : decode cX3_doOwnOp 101 = .ok (.iconst 1, 1) := by decide +kernel
theorem dX3_doOwnOp_102 : decode cX3_doOwnOp 102 = .ok (.ireturn, 1) := by decide +kernel
theorem dX3_doOwnOp_103 : decode cX3_doOwnOp 103 = .ok (.aload_n 0, 1) := by decide +kernel
theorem dX3_doOwnOp_104 : decode cX3_doOwnOp 104 = .ok (.iload_n 1, 1) := by decide +kernel
theorem dX3_doOwnOp_105 : decode cX3_doOwnOp 105 = .ok (.iload_n 3, 1) := by decide +kernel
theorem dX3_doOwnOp_106 : decode cX3_doOwnOp 106 = .ok (.aload 7, 2) := by decide +kernel
theorem dX3_doOwnOp_108 : decode cX3_doOwnOp 108 = .ok (.iload 4, 2) := by decide +kernel
theorem dX3_doOwnOp_110 : decode cX3_doOwnOp 110 = .ok (.iaload, 1) := by decide +kernel
theorem dX3_doOwnOp_111 : decode cX3_doOwnOp 111 = .ok (.iload 5, 2) := by decide +kernel
theorem dX3_doOwnOp_113 : decode cX3_doOwnOp 113 = .ok (.iadd, 1) := by decide +kernel
theorem dX3_doOwnOp_114 : decode cX3_doOwnOp 114 = .ok (.invokevirtual 145, 3) := by decide +kernel
theorem dX3_doOwnOp_117 : decode cX3_doOwnOp 117 = .ok (.ireturn, 1) := by decide +kernel
theorem dX3_doOwnOp_118 : decode cX3_doOwnOp 118 = .ok (.aload_n 0, 1) := by decide +kernel
theorem dX3_doOwnOp_119 : decode cX3_doOwnOp 119 = .ok (.iload_n 1, 1) := by decide +kernel
theorem dX3_doOwnOp_120 : decode cX3_doOwnOp 120 = .ok (.iload_n 3, 1) := by decide +kernel
theorem dX3_doOwnOp_121 : decode cX3_doOwnOp 121 = .ok (.aload 7, 2) := by decide +kernel
theorem dX3_doOwnOp_123 : decode cX3_doOwnOp 123 = .ok (.iload 4, 2) := by decide +kernel
theorem dX3_doOwnOp_125 : decode cX3_doOwnOp 125 = .ok (.iaload, 1) := by decide +kernel
theorem dX3_doOwnOp_126 : decode cX3_doOwnOp 126 = .ok (.iload 5, 2) := by decide +kernel
theorem dX3_doOwnOp_128 : decode cX3_doOwnOp 128 = .ok (.iadd, 1) := by decide +kernel
theorem dX3_doOwnOp_129 : decode cX3_doOwnOp 129 = .ok (.invokevirtual 149, 3) := by decide +kernel
theorem dX3_doOwnOp_132 : decode cX3_doOwnOp 132 = .ok (.ireturn, 1) := by decide +kernel
theorem dX3_doOwnOp_133 : decode cX3_doOwnOp 133 = .ok (.aload 6, 2) := by decide +kernel
theorem dX3_doOwnOp_135 : decode cX3_doOwnOp 135 = .ok (.aload 7, 2) := by decide +kernel
theorem dX3_doOwnOp_137 : decode cX3_doOwnOp 137 = .ok (.iload_n 3, 1) := by decide +kernel
theorem dX3_doOwnOp_138 : decode cX3_doOwnOp 138 = .ok (.iaload, 1) := by decide +kernel
theorem dX3_doOwnOp_139 : decode cX3_doOwnOp 139 = .ok (.ifCond .eq 7, 3) := by decide +kernel
theorem dX3_doOwnOp_142 : decode cX3_doOwnOp 142 = .ok (.iconst 1, 1) := by decide +kernel
theorem dX3_doOwnOp_143 : decode cX3_doOwnOp 143 = .ok (.goto 4, 3) := by decide +kernel
theorem dX3_doOwnOp_146 : decode cX3_doOwnOp 146 = .ok (.iconst 0, 1) := by decide +kernel
theorem dX3_doOwnOp_147 : decode cX3_doOwnOp 147 = .ok (.iload 5, 2) := by decide +kernel
theorem dX3_doOwnOp_149 : decode cX3_doOwnOp 149 = .ok (.invokestatic 152, 3) := by decide +kernel
theorem dX3_doOwnOp_152 : decode cX3_doOwnOp 152 = .ok (.ireturn, 1) := by decide +kernel
theorem dX3_doOwnOp_153 : decode cX3_doOwnOp 153 = .ok (.aload 6, 2) := by decide +kernel
theorem dX3_doOwnOp_155 : decode cX3_doOwnOp 155 = .ok (.aload 7, 2) := by decide +kernel
theorem dX3_doOwnOp_157 : decode cX3_doOwnOp 157 = .ok (.iload_n 3, 1) := by decide +kernel
theorem dX3_doOwnOp_158 : decode cX3_doOwnOp 158 = .ok (.iaload, 1) := by decide +kernel
theorem dX3_doOwnOp_159 : decode cX3_doOwnOp 159 = .ok (.aload 7, 2) := by decide +kernel
theorem dX3_doOwnOp_161 : decode cX3_doOwnOp 161 = .ok (.iload 4, 2) := by decide +kernel
theorem dX3_doOwnOp_163 : decode cX3_doOwnOp 163 = .ok (.iaload, 1) := by decide +kernel
theorem dX3_doOwnOp_164 : decode cX3_doOwnOp 164 = .ok (.if_icmp .ge 7, 3) := by decide +kernel
theorem dX3_doOwnOp_167 : decode cX3_doOwnOp 167 = .ok (.iconst 1, 1) := by decide +kernel
theorem dX3_doOwnOp_168 : decode cX3_doOwnOp 168 = .ok (.goto 4, 3) := by decide +kernel
theorem dX3_doOwnOp_171 : decode cX3_doOwnOp 171 = .ok (.iconst 0, 1) := by decide +kernel
theorem dX3_doOwnOp_172 : decode cX3_doOwnOp 172 = .ok (.iload 5, 2) := by decide +kernel
theorem dX3_doOwnOp_174 : decode cX3_doOwnOp 174 = .ok (.invokestatic 152, 3) := by decide +kernel
theorem dX3_doOwnOp_177 : decode cX3_doOwnOp 177 = .ok (.ireturn, 1) := by decide +kernel
theorem dX3_doOwnOp_178 : decode cX3_doOwnOp 178 = .ok (.aload_n 0, 1) := by decide +kernel
theorem dX3_doOwnOp_179 : decode cX3_doOwnOp 179 = .ok (.getfield 28, 3) := by decide +kernel
theorem dX3_doOwnOp_182 : decode cX3_doOwnOp 182 = .ok (.aload 7, 2) := by decide +kernel
theorem dX3_doOwnOp_184 : decode cX3_doOwnOp 184 = .ok (.iload_n 3, 1) := by decide +kernel
theorem dX3_doOwnOp_185 : decode cX3_doOwnOp 185 = .ok (.iaload, 1) := by decide +kernel
theorem dX3_doOwnOp_186 : decode cX3_doOwnOp 186 = .ok (.invokevirtual 156, 3) := by decide +kernel
theorem dX3_doOwnOp_189 : decode cX3_doOwnOp 189 = .ok (.iconst 2, 1) := by decide +kernel
theorem dX3_doOwnOp_190 : decode cX3_doOwnOp 190 = .ok (.ireturn, 1) := by decide +kernel
theorem dX3_end_0 : decode cX3_end 0 = .ok (.aload_n 0, 1) := by decide +kernel
theorem dX3_end_1 : decode cX3_end 1 = .ok (.getfield 20, 3) := by decide +kernel
theorem dX3_end_4 : decode cX3_end 4 = .ok (.iload_n 1, 1) := by decide +kernel
theorem dX3_end_5 : decode cX3_end 5 = .ok (.aaload, 1) := by decide +kernel
theorem dX3_end_6 : decode cX3_end 6 = .ok (.astore_n 3, 1) := by decide +kernel
theorem dX3_end_7 : decode cX3_end 7 = .ok (.aload_n 0, 1) := by decide +kernel
theorem dX3_end_8 : decode cX3_end 8 = .ok (.aload_n 3, 1) := by decide +kernel
theorem dX3_end_9 : decode cX3_end 9 = .ok (.iconst 0, 1) := by decide +kernel
theorem dX3_end_10 : decode cX3_end 10 = .ok (.invokevirtual 171, 3) := by decide +kernel
theorem dX3_end_13 : decode cX3_end 13 = .ok (.aload_n 3, 1) := by decide +kernel
theorem dX3_end_14 : decode cX3_end 14 = .ok (.iconst 3, 1) := by decide +kernel
theorem dX3_end_15 : decode cX3_end 15 = .ok (.putfield 90, 3) := by decide +kernel
theorem dX3_end_18 : decode cX3_end 18 = .ok (.aload_n 3, 1) := by decide +kernel
theorem dX3_end_19 : decode cX3_end 19 = .ok (.iload_n 2, 1) := by decide +kernel
theorem dX3_end_20 : decode cX3_end 20 = .ok (.putfield 93, 3) := by decide +kernel
theorem dX3_end_23 : decode cX3_end 23 = .ok (.iconst 0, 1) := by decide +kernel
theorem dX3_end_24 : decode cX3_end 24 = .ok (.istore 4, 2) := by decide +kernel
theorem dX3_end_26 : decode cX3_end 26 = .ok (.iload 4, 2) := by decide +kernel
theorem dX3_end_28 : decode cX3_end 28 = .ok (.bipush 8, 2) := by decide +kernel
theorem dX3_end_30 : decode cX3_end 30 = .ok (.if_icmp .ge 34, 3) := by decide +kernel
theorem dX3_end_33 : decode cX3_end 33 = .ok (.aload_n 0, 1) := by decide +kernel
theorem dX3_end_34 : decode cX3_end 34 = .ok (.getfield 20, 3) := by decide +kernel
theorem dX3_end_37 : decode cX3_end 37 = .ok (.iload 4, 2) := by decide +kernel
theorem dX3_end_39 : decode cX3_end 39 = .ok (.aaload, 1) := by decide +kernel
theorem dX3_end_40 : decode cX3_end 40 = .ok (.getfield 81, 3) := by decide +kernel
theorem dX3_end_43 : decode cX3_end 43 = .ok (.iload_n 1, 1) := by decide +kernel
theorem dX3_end_44 : decode cX3_end 44 = .ok (.if_icmp .ne 14, 3) := by decide +kernel
theorem dX3_end_47 : decode cX3_end 47 = .ok (.aload_n 0, 1) := by decide +kernel
theorem dX3_end_48 : decode cX3_end 48 = .ok (.getfield 20, 3) := by decide +kernel
theorem dX3_end_51 : decode cX3_end 51 = .ok (.iload 4, 2) := by decide +kernel
theorem dX3_end_53 : decode cX3_end 53 = .ok (.aaload, 1) := by decide +kernel
theorem dX3_end_54 : decode cX3_end 54 = .ok (.iconst (-1), 1) := by decide +kernel
theorem dX3_end_55 : decode cX3_end 55 = .ok (.putfield 81, 3) := by decide +kernel
theorem dX3_end_58 : decode cX3_end 58 = .ok (.iinc 4 1, 3) := by decide +kernel
theorem dX3_end_61 : decode cX3_end 61 = .ok (.goto (-35), 3) := by decide +kernel
theorem dX3_end_64 : decode cX3_end 64 = .ok (.aload_n 3, 1) := by decide +kernel
theorem dX3_end_65 : decode cX3_end 65 = .ok (.getfield 81, 3) := by decide +kernel
theorem dX3_end_68 : decode cX3_end 68 = .ok (.iconst (-1), 1) := by decide +kernel
theorem dX3_end_69 : decode cX3_end 69 = .ok (.if_icmp .eq 32, 3) := by decide +kernel
theorem dX3_end_72 : decode cX3_end 72 = .ok (.aload_n 0, 1) := by decide +kernel
theorem dX3_end_73 : decode cX3_end 73 = .ok (.getfield 20, 3) := by decide +kernel
theorem dX3_end_76 : decode cX3_end 76 = .ok (.aload_n 3, 1) := by decide +kernel
theorem dX3_end_77 : decode cX3_end 77 = .ok (.getfield 81, 3) := by decide +kernel
theorem dX3_end_80 : decode cX3_end 80 = .ok (.aaload, 1) := by decide +kernel
theorem dX3_end_81 : decode cX3_end 81 = .ok (.getfield 90, 3) := by decide +kernel
theorem dX3_end_84 : decode cX3_end 84 = .ok (.iconst 2, 1) := by decide +kernel
theorem dX3_end_85 : decode cX3_end 85 = .ok (.if_icmp .ne 16, 3) := by decide +kernel
theorem dX3_end_88 : decode cX3_end 88 = .ok (.aload_n 0, 1) := by decide +kernel
theorem dX3_end_89 : decode cX3_end 89 = .ok (.getfield 20, 3) := by decide +kernel
theorem dX3_end_92 : decode cX3_end 92 = .ok (.aload_n 3, 1) := by decide +kernel
theorem dX3_end_93 : decode cX3_end 93 = .ok (.getfield 81, 3) := by decide +kernel
theorem dX3_end_96 : decode cX3_end 96 = .ok (.aaload, 1) := by decide +kernel
theorem dX3_end_97 : decode cX3_end 97 = .ok (.iconst 1, 1) := by decide +kernel
theorem dX3_end_98 : decode cX3_end 98 = .ok (.putfield 90, 3) := by decide +kernel
theorem dX3_end_101 : decode cX3_end 101 = .ok (.iconst 5, 1) := by decide +kernel
theorem dX3_end_102 : decode cX3_end 102 = .ok (.ireturn, 1) := by decide +kernel

/-! decode rows (written by program) -/
theorem dX3_steps_0 : decode cX3_steps 0 = .ok (.iload_n 1, 1) := by decide +kernel
theorem dX3_steps_1 : decode cX3_steps 1 = .ok (.ifCond .lt 9, 3) := by decide +kernel
theorem dX3_steps_4 : decode cX3_steps 4 = .ok (.iload_n 1, 1) := by decide +kernel
theorem dX3_steps_5 : decode cX3_steps 5 = .ok (.bipush 50, 2) := by decide +kernel
theorem dX3_steps_7 : decode cX3_steps 7 = .ok (.if_icmp .le 5, 3) := by decide +kernel
theorem dX3_steps_10 : decode cX3_steps 10 = .ok (.iconst (-1), 1) := by decide +kernel
theorem dX3_steps_11 : decode cX3_steps 11 = .ok (.ireturn, 1) := by decide +kernel
theorem dX3_steps_12 : decode cX3_steps 12 = .ok (.iconst 0, 1) := by decide +kernel
theorem dX3_steps_13 : decode cX3_steps 13 = .ok (.istore_n 2, 1) := by decide +kernel
theorem dX3_steps_14 : decode cX3_steps 14 = .ok (.iload_n 2, 1) := by decide +kernel
theorem dX3_steps_15 : decode cX3_steps 15 = .ok (.iload_n 1, 1) := by decide +kernel
theorem dX3_steps_16 : decode cX3_steps 16 = .ok (.if_icmp .ge 18, 3) := by decide +kernel
theorem dX3_steps_19 : decode cX3_steps 19 = .ok (.aload_n 0, 1) := by decide +kernel
theorem dX3_steps_20 : decode cX3_steps 20 = .ok (.invokevirtual 67, 3) := by decide +kernel
theorem dX3_steps_23 : decode cX3_steps 23 = .ok (.ifCond .ne 5, 3) := by decide +kernel
theorem dX3_steps_26 : decode cX3_steps 26 = .ok (.iload_n 2, 1) := by decide +kernel
theorem dX3_steps_27 : decode cX3_steps 27 = .ok (.ireturn, 1) := by decide +kernel
theorem dX3_steps_28 : decode cX3_steps 28 = .ok (.iinc 2 1, 3) := by decide +kernel
theorem dX3_steps_31 : decode cX3_steps 31 = .ok (.goto (-17), 3) := by decide +kernel
theorem dX3_steps_34 : decode cX3_steps 34 = .ok (.iload_n 1, 1) := by decide +kernel
theorem dX3_steps_35 : decode cX3_steps 35 = .ok (.ireturn, 1) := by decide +kernel
theorem dX3_takeStep_0 : decode cX3_takeStep 0 = .ok (.aload_n 0, 1) := by decide +kernel
theorem dX3_takeStep_1 : decode cX3_takeStep 1 = .ok (.invokevirtual 96, 3) := by decide +kernel
theorem dX3_takeStep_4 : decode cX3_takeStep 4 = .ok (.ifCond .ne 16, 3) := by decide +kernel
theorem dX3_takeStep_7 : decode cX3_takeStep 7 = .ok (.aload_n 0, 1) := by decide +kernel
theorem dX3_takeStep_8 : decode cX3_takeStep 8 = .ok (.aload_n 0, 1) := by decide +kernel
theorem dX3_takeStep_9 : decode cX3_takeStep 9 = .ok (.invokevirtual 128, 3) := by decide +kernel
theorem dX3_takeStep_12 : decode cX3_takeStep 12 = .ok (.putfield 40, 3) := by decide +kernel
theorem dX3_takeStep_15 : decode cX3_takeStep 15 = .ok (.aload_n 0, 1) := by decide +kernel
theorem dX3_takeStep_16 : decode cX3_takeStep 16 = .ok (.iconst 0, 1) := by decide +kernel
theorem dX3_takeStep_17 : decode cX3_takeStep 17 = .ok (.putfield 43, 3) := by decide +kernel
theorem dX3_takeStep_20 : decode cX3_takeStep 20 = .ok (.aload_n 0, 1) := by decide +kernel
theorem dX3_takeStep_21 : decode cX3_takeStep 21 = .ok (.getfield 40, 3) := by decide +kernel
theorem dX3_takeStep_24 : decode cX3_takeStep 24 = .ok (.iconst (-1), 1) := by decide +kernel
theorem dX3_takeStep_25 : decode cX3_takeStep 25 = .ok (.if_icmp .ne 5, 3) := by decide +kernel
theorem dX3_takeStep_28 : decode cX3_takeStep 28 = .ok (.iconst 0, 1) := by decide +kernel
theorem dX3_takeStep_29 : decode cX3_takeStep 29 = .ok (.ireturn, 1) := by decide +kernel
theorem dX3_takeStep_30 : decode cX3_takeStep 30 = .ok (.aload_n 0, 1) := by decide +kernel
theorem dX3_takeStep_31 : decode cX3_takeStep 31 = .ok (.dup, 1) := by decide +kernel
theorem dX3_takeStep_32 : decode cX3_takeStep 32 = .ok (.getfield 43, 3) := by decide +kernel
theorem dX3_takeStep_35 : decode cX3_takeStep 35 = .ok (.iconst 1, 1) := by decide +kernel
theorem dX3_takeStep_36 : decode cX3_takeStep 36 = .ok (.iadd, 1) := by decide +kernel
theorem dX3_takeStep_37 : decode cX3_takeStep 37 = .ok (.putfield 43, 3) := by decide +kernel
theorem dX3_takeStep_40 : decode cX3_takeStep 40 = .ok (.aload_n 0, 1) := by decide +kernel
theorem dX3_takeStep_41 : decode cX3_takeStep 41 = .ok (.aload_n 0, 1) := by decide +kernel
theorem dX3_takeStep_42 : decode cX3_takeStep 42 = .ok (.getfield 40, 3) := by decide +kernel
theorem dX3_takeStep_45 : decode cX3_takeStep 45 = .ok (.invokevirtual 131, 3) := by decide +kernel
theorem dX3_takeStep_48 : decode cX3_takeStep 48 = .ok (.ireturn, 1) := by decide +kernel
theorem dX3_touchToRead_0 : decode cX3_touchToRead 0 = .ok (.aload_n 1, 1) := by decide +kernel
theorem dX3_touchToRead_1 : decode cX3_touchToRead 1 = .ok (.iload_n 2, 1) := by decide +kernel
theorem dX3_touchToRead_2 : decode cX3_touchToRead 2 = .ok (.invokevirtual 106, 3) := by decide +kernel
theorem dX3_touchToRead_5 : decode cX3_touchToRead 5 = .ok (.ifCond .ne 6, 3) := by decide +kernel
theorem dX3_touchToRead_8 : decode cX3_touchToRead 8 = .ok (.bipush (-11), 2) := by decide +kernel
theorem dX3_touchToRead_10 : decode cX3_touchToRead 10 = .ok (.ireturn, 1) := by decide +kernel
theorem dX3_touchToRead_11 : decode cX3_touchToRead 11 = .ok (.iload_n 2, 1) := by decide +kernel
theorem dX3_touchToRead_12 : decode cX3_touchToRead 12 = .ok (.bipush 8, 2) := by decide +kernel
theorem dX3_touchToRead_14 : decode cX3_touchToRead 14 = .ok (.idiv, 1) := by decide +kernel
theorem dX3_touchToRead_15 : decode cX3_touchToRead 15 = .ok (.istore_n 3, 1) := by decide +kernel
theorem dX3_touchToRead_16 : decode cX3_touchToRead 16 = .ok (.aload_n 1, 1) := by decide +kernel
theorem dX3_touchToRead_17 : decode cX3_touchToRead 17 = .ok (.getfield 112, 3) := by decide +kernel
theorem dX3_touchToRead_20 : decode cX3_touchToRead 20 = .ok (.iload_n 3, 1) := by decide +kernel
theorem dX3_touchToRead_21 : decode cX3_touchToRead 21 = .ok (.iaload, 1) := by decide +kernel
theorem dX3_touchToRead_22 : decode cX3_touchToRead 22 = .ok (.iconst (-1), 1) := by decide +kernel
theorem dX3_touchToRead_23 : decode cX3_touchToRead 23 = .ok (.if_icmp .ne 16, 3) := by decide +kernel
theorem dX3_touchToRead_26 : decode cX3_touchToRead 26 = .ok (.aload_n 1, 1) := by decide +kernel
theorem dX3_touchToRead_27 : decode cX3_touchToRead 27 = .ok (.getfield 112, 3) := by decide +kernel
theorem dX3_touchToRead_30 : decode cX3_touchToRead 30 = .ok (.iload_n 3, 1) := by decide +kernel
theorem dX3_touchToRead_31 : decode cX3_touchToRead 31 = .ok (.aload_n 0, 1) := by decide +kernel
theorem dX3_touchToRead_32 : decode cX3_touchToRead 32 = .ok (.getfield 14, 3) := by decide +kernel
theorem dX3_touchToRead_35 : decode cX3_touchToRead 35 = .ok (.invokevirtual 184, 3) := by decide +kernel
theorem dX3_touchToRead_38 : decode cX3_touchToRead 38 = .ok (.iastore, 1) := by decide +kernel
theorem dX3_touchToRead_39 : decode cX3_touchToRead 39 = .ok (.aload_n 1, 1) := by decide +kernel
theorem dX3_touchToRead_40 : decode cX3_touchToRead 40 = .ok (.getfield 112, 3) := by decide +kernel
theorem dX3_touchToRead_43 : decode cX3_touchToRead 43 = .ok (.iload_n 3, 1) := by decide +kernel
theorem dX3_touchToRead_44 : decode cX3_touchToRead 44 = .ok (.iaload, 1) := by decide +kernel
theorem dX3_touchToRead_45 : decode cX3_touchToRead 45 = .ok (.iconst (-1), 1) := by decide +kernel
theorem dX3_touchToRead_46 : decode cX3_touchToRead 46 = .ok (.if_icmp .ne 8, 3) := by decide +kernel
theorem dX3_touchToRead_49 : decode cX3_touchToRead 49 = .ok (.bipush (-13), 2) := by decide +kernel
theorem dX3_touchToRead_51 : decode cX3_touchToRead 51 = .ok (.goto 4, 3) := by decide +kernel
theorem dX3_touchToRead_54 : decode cX3_touchToRead 54 = .ok (.iconst 0, 1) := by decide +kernel
theorem dX3_touchToRead_55 : decode cX3_touchToRead 55 = .ok (.ireturn, 1) := by decide +kernel
theorem dX3_waitForChild_0 : decode cX3_waitForChild 0 = .ok (.aload_n 0, 1) := by decide +kernel
theorem dX3_waitForChild_1 : decode cX3_waitForChild 1 = .ok (.getfield 20, 3) := by decide +kernel
theorem dX3_waitForChild_4 : decode cX3_waitForChild 4 = .ok (.iload_n 1, 1) := by decide +kernel
theorem dX3_waitForChild_5 : decode cX3_waitForChild 5 = .ok (.aaload, 1) := by decide +kernel
theorem dX3_waitForChild_6 : decode cX3_waitForChild 6 = .ok (.astore_n 3, 1) := by decide +kernel
theorem dX3_waitForChild_7 : decode cX3_waitForChild 7 = .ok (.aload_n 0, 1) := by decide +kernel
theorem dX3_waitForChild_8 : decode cX3_waitForChild 8 = .ok (.iload_n 1, 1) := by decide +kernel
theorem dX3_waitForChild_9 : decode cX3_waitForChild 9 = .ok (.invokevirtual 178, 3) := by decide +kernel
theorem dX3_waitForChild_12 : decode cX3_waitForChild 12 = .ok (.istore 4, 2) := by decide +kernel
theorem dX3_waitForChild_14 : decode cX3_waitForChild 14 = .ok (.iload 4, 2) := by decide +kernel
theorem dX3_waitForChild_16 : decode cX3_waitForChild 16 = .ok (.iconst (-1), 1) := by decide +kernel
theorem dX3_waitForChild_17 : decode cX3_waitForChild 17 = .ok (.if_icmp .eq 21, 3) := by decide +kernel
theorem dX3_waitForChild_20 : decode cX3_waitForChild 20 = .ok (.aload_n 3, 1) := by decide +kernel
theorem dX3_waitForChild_21 : decode cX3_waitForChild 21 = .ok (.getfield 103, 3) := by decide +kernel
theorem dX3_waitForChild_24 : decode cX3_waitForChild 24 = .ok (.iload_n 2, 1) := by decide +kernel
theorem dX3_waitForChild_25 : decode cX3_waitForChild 25 = .ok (.aload_n 0, 1) := by decide +kernel
theorem dX3_waitForChild_26 : decode cX3_waitForChild 26 = .ok (.getfield 20, 3) := by decide +kernel
theorem dX3_waitForChild_29 : decode cX3_waitForChild 29 = .ok (.iload 4, 2) := by decide +kernel
theorem dX3_waitForChild_31 : decode cX3_waitForChild 31 = .ok (.aaload, 1) := by decide +kernel
theorem dX3_waitForChild_32 : decode cX3_waitForChild 32 = .ok (.invokevirtual 84, 3) := by decide +kernel
theorem dX3_waitForChild_35 : decode cX3_waitForChild 35 = .ok (.iastore, 1) := by decide +kernel
theorem dX3_waitForChild_36 : decode cX3_waitForChild 36 = .ok (.iconst 1, 1) := by decide +kernel
theorem dX3_waitForChild_37 : decode cX3_waitForChild 37 = .ok (.ireturn, 1) := by decide +kernel
theorem dX3_waitForChild_38 : decode cX3_waitForChild 38 = .ok (.aload_n 0, 1) := by decide +kernel
theorem dX3_waitForChild_39 : decode cX3_waitForChild 39 = .ok (.iload_n 1, 1) := by decide +kernel
theorem dX3_waitForChild_40 : decode cX3_waitForChild 40 = .ok (.invokevirtual 181, 3) := by decide +kernel
theorem dX3_waitForChild_43 : decode cX3_waitForChild 43 = .ok (.ifCond .ne 12, 3) := by decide +kernel
theorem dX3_waitForChild_46 : decode cX3_waitForChild 46 = .ok (.aload_n 3, 1) := by decide +kernel
theorem dX3_waitForChild_47 : decode cX3_waitForChild 47 = .ok (.getfield 103, 3) := by decide +kernel
theorem dX3_waitForChild_50 : decode cX3_waitForChild 50 = .ok (.iload_n 2, 1) := by decide +kernel
theorem dX3_waitForChild_51 : decode cX3_waitForChild 51 = .ok (.iconst (-1), 1) := by decide +kernel
theorem dX3_waitForChild_52 : decode cX3_waitForChild 52 = .ok (.iastore, 1) := by decide +kernel
theorem dX3_waitForChild_53 : decode cX3_waitForChild 53 = .ok (.iconst 1, 1) := by decide +kernel
theorem dX3_waitForChild_54 : decode cX3_waitForChild 54 = .ok (.ireturn, 1) := by decide +kernel
theorem dX3_waitForChild_55 : decode cX3_waitForChild 55 = .ok (.aload_n 3, 1) := by decide +kernel
theorem dX3_waitForChild_56 : decode cX3_waitForChild 56 = .ok (.iconst 2, 1) := by decide +kernel
theorem dX3_waitForChild_57 : decode cX3_waitForChild 57 = .ok (.putfield 90, 3) := by decide +kernel
theorem dX3_waitForChild_60 : decode cX3_waitForChild 60 = .ok (.aload_n 3, 1) := by decide +kernel
theorem dX3_waitForChild_61 : decode cX3_waitForChild 61 = .ok (.dup, 1) := by decide +kernel
theorem dX3_waitForChild_62 : decode cX3_waitForChild 62 = .ok (.getfield 100, 3) := by decide +kernel
theorem dX3_waitForChild_65 : decode cX3_waitForChild 65 = .ok (.iconst 1, 1) := by decide +kernel
theorem dX3_waitForChild_66 : decode cX3_waitForChild 66 = .ok (.isub, 1) := by decide +kernel
theorem dX3_waitForChild_67 : decode cX3_waitForChild 67 = .ok (.putfield 100, 3) := by decide +kernel
theorem dX3_waitForChild_70 : decode cX3_waitForChild 70 = .ok (.iconst 4, 1) := by decide +kernel
theorem dX3_waitForChild_71 : decode cX3_waitForChild 71 = .ok (.ireturn, 1) := by decide +kernel
theorem dX3_wordAt_0 : decode cX3_wordAt 0 = .ok (.aload_n 1, 1) := by decide +kernel
theorem dX3_wordAt_1 : decode cX3_wordAt 1 = .ok (.getfield 112, 3) := by decide +kernel
theorem dX3_wordAt_4 : decode cX3_wordAt 4 = .ok (.iload_n 2, 1) := by decide +kernel
theorem dX3_wordAt_5 : decode cX3_wordAt 5 = .ok (.bipush 8, 2) := by decide +kernel
theorem dX3_wordAt_7 : decode cX3_wordAt 7 = .ok (.idiv, 1) := by decide +kernel
theorem dX3_wordAt_8 : decode cX3_wordAt 8 = .ok (.iaload, 1) := by decide +kernel
theorem dX3_wordAt_9 : decode cX3_wordAt 9 = .ok (.istore_n 3, 1) := by decide +kernel
theorem dX3_wordAt_10 : decode cX3_wordAt 10 = .ok (.iload_n 3, 1) := by decide +kernel
theorem dX3_wordAt_11 : decode cX3_wordAt 11 = .ok (.iconst (-1), 1) := by decide +kernel
theorem dX3_wordAt_12 : decode cX3_wordAt 12 = .ok (.if_icmp .ne 7, 3) := by decide +kernel
theorem dX3_wordAt_15 : decode cX3_wordAt 15 = .ok (.iconst 0, 1) := by decide +kernel
theorem dX3_wordAt_16 : decode cX3_wordAt 16 = .ok (.goto 20, 3) := by decide +kernel
theorem dX3_wordAt_19 : decode cX3_wordAt 19 = .ok (.aload_n 0, 1) := by decide +kernel
theorem dX3_wordAt_20 : decode cX3_wordAt 20 = .ok (.getfield 14, 3) := by decide +kernel
theorem dX3_wordAt_23 : decode cX3_wordAt 23 = .ok (.getfield 194, 3) := by decide +kernel
theorem dX3_wordAt_26 : decode cX3_wordAt 26 = .ok (.iload_n 3, 1) := by decide +kernel
theorem dX3_wordAt_27 : decode cX3_wordAt 27 = .ok (.bipush 8, 2) := by decide +kernel
theorem dX3_wordAt_29 : decode cX3_wordAt 29 = .ok (.imul, 1) := by decide +kernel
theorem dX3_wordAt_30 : decode cX3_wordAt 30 = .ok (.iload_n 2, 1) := by decide +kernel
theorem dX3_wordAt_31 : decode cX3_wordAt 31 = .ok (.bipush 8, 2) := by decide +kernel
theorem dX3_wordAt_33 : decode cX3_wordAt 33 = .ok (.irem, 1) := by decide +kernel
theorem dX3_wordAt_34 : decode cX3_wordAt 34 = .ok (.iadd, 1) := by decide +kernel
theorem dX3_wordAt_35 : decode cX3_wordAt 35 = .ok (.iaload, 1) := by decide +kernel
theorem dX3_wordAt_36 : decode cX3_wordAt 36 = .ok (.ireturn, 1) := by decide +kernel
theorem dX3_writeFrom_0 : decode cX3_writeFrom 0 = .ok (.aload_n 0, 1) := by decide +kernel
theorem dX3_writeFrom_1 : decode cX3_writeFrom 1 = .ok (.getfield 20, 3) := by decide +kernel
theorem dX3_writeFrom_4 : decode cX3_writeFrom 4 = .ok (.iload_n 1, 1) := by decide +kernel
theorem dX3_writeFrom_5 : decode cX3_writeFrom 5 = .ok (.aaload, 1) := by decide +kernel
theorem dX3_writeFrom_6 : decode cX3_writeFrom 6 = .ok (.astore 4, 2) := by decide +kernel
theorem dX3_writeFrom_8 : decode cX3_writeFrom 8 = .ok (.aload 4, 2) := by decide +kernel
theorem dX3_writeFrom_10 : decode cX3_writeFrom 10 = .ok (.iload_n 3, 1) := by decide +kernel
theorem dX3_writeFrom_11 : decode cX3_writeFrom 11 = .ok (.invokevirtual 106, 3) := by decide +kernel
theorem dX3_writeFrom_14 : decode cX3_writeFrom 14 = .ok (.ifCond .eq 16, 3) := by decide +kernel
theorem dX3_writeFrom_17 : decode cX3_writeFrom 17 = .ok (.aload_n 0, 1) := by decide +kernel
theorem dX3_writeFrom_18 : decode cX3_writeFrom 18 = .ok (.aload 4, 2) := by decide +kernel
theorem dX3_writeFrom_20 : decode cX3_writeFrom 20 = .ok (.iload_n 3, 1) := by decide +kernel
theorem dX3_writeFrom_21 : decode cX3_writeFrom 21 = .ok (.bipush 8, 2) := by decide +kernel
theorem dX3_writeFrom_23 : decode cX3_writeFrom 23 = .ok (.idiv, 1) := by decide +kernel
theorem dX3_writeFrom_24 : decode cX3_writeFrom 24 = .ok (.invokevirtual 59, 3) := by decide +kernel
theorem dX3_writeFrom_27 : decode cX3_writeFrom 27 = .ok (.goto 5, 3) := by decide +kernel
theorem dX3_writeFrom_30 : decode cX3_writeFrom 30 = .ok (.bipush (-11), 2) := by decide +kernel
theorem dX3_writeFrom_32 : decode cX3_writeFrom 32 = .ok (.istore 5, 2) := by decide +kernel
theorem dX3_writeFrom_34 : decode cX3_writeFrom 34 = .ok (.iload 5, 2) := by decide +kernel
theorem dX3_writeFrom_36 : decode cX3_writeFrom 36 = .ok (.ifCond .eq 11, 3) := by decide +kernel
theorem dX3_writeFrom_39 : decode cX3_writeFrom 39 = .ok (.aload_n 0, 1) := by decide +kernel
theorem dX3_writeFrom_40 : decode cX3_writeFrom 40 = .ok (.iload_n 1, 1) := by decide +kernel
theorem dX3_writeFrom_41 : decode cX3_writeFrom 41 = .ok (.iload 5, 2) := by decide +kernel
theorem dX3_writeFrom_43 : decode cX3_writeFrom 43 = .ok (.invokevirtual 74, 3) := by decide +kernel
theorem dX3_writeFrom_46 : decode cX3_writeFrom 46 = .ok (.ireturn, 1) := by decide +kernel
theorem dX3_writeFrom_47 : decode cX3_writeFrom 47 = .ok (.aload_n 0, 1) := by decide +kernel
theorem dX3_writeFrom_48 : decode cX3_writeFrom 48 = .ok (.aload 4, 2) := by decide +kernel
theorem dX3_writeFrom_50 : decode cX3_writeFrom 50 = .ok (.iload_n 3, 1) := by decide +kernel
theorem dX3_writeFrom_51 : decode cX3_writeFrom 51 = .ok (.aload 4, 2) := by decide +kernel
theorem dX3_writeFrom_53 : decode cX3_writeFrom 53 = .ok (.getfield 103, 3) := by decide +kernel
theorem dX3_writeFrom_56 : decode cX3_writeFrom 56 = .ok (.iload_n 2, 1) := by decide +kernel
theorem dX3_writeFrom_57 : decode cX3_writeFrom 57 = .ok (.iaload, 1) := by decide +kernel
theorem dX3_writeFrom_58 : decode cX3_writeFrom 58 = .ok (.invokevirtual 63, 3) := by decide +kernel
theorem dX3_writeFrom_61 : decode cX3_writeFrom 61 = .ok (.iconst 1, 1) := by decide +kernel
theorem dX3_writeFrom_62 : decode cX3_writeFrom 62 = .ok (.ireturn, 1) := by decide +kernel
theorem dX4_alone_0 : decode cX4_alone 0 = .ok (.aload_n 0, 1) := by decide +kernel
theorem dX4_alone_1 : decode cX4_alone 1 = .ok (.invokevirtual 50, 3) := by decide +kernel
theorem dX4_alone_4 : decode cX4_alone 4 = .ok (.aload_n 0, 1) := by decide +kernel
theorem dX4_alone_5 : decode cX4_alone 5 = .ok (.getfield 44, 3) := by decide +kernel
theorem dX4_alone_8 : decode cX4_alone 8 = .ok (.if_icmp .ne 11, 3) := by decide +kernel
theorem dX4_alone_11 : decode cX4_alone 11 = .ok (.aload_n 0, 1) := by decide +kernel
theorem dX4_alone_12 : decode cX4_alone 12 = .ok (.bipush (-13), 2) := by decide +kernel
theorem dX4_alone_14 : decode cX4_alone 14 = .ok (.putfield 54, 3) := by decide +kernel
theorem dX4_alone_17 : decode cX4_alone 17 = .ok (.iconst 0, 1) := by decide +kernel
theorem dX4_alone_18 : decode cX4_alone 18 = .ok (.ireturn, 1) := by decide +kernel
theorem dX4_alone_19 : decode cX4_alone 19 = .ok (.aload_n 0, 1) := by decide +kernel
theorem dX4_alone_20 : decode cX4_alone 20 = .ok (.dup, 1) := by decide +kernel
theorem dX4_alone_21 : decode cX4_alone 21 = .ok (.getfield 57, 3) := by decide +kernel
theorem dX4_alone_24 : decode cX4_alone 24 = .ok (.iconst 1, 1) := by decide +kernel
theorem dX4_alone_25 : decode cX4_alone 25 = .ok (.iadd, 1) := by decide +kernel
theorem dX4_alone_26 : decode cX4_alone 26 = .ok (.putfield 57, 3) := by decide +kernel
theorem dX4_alone_29 : decode cX4_alone 29 = .ok (.aload_n 0, 1) := by decide +kernel
theorem dX4_alone_30 : decode cX4_alone 30 = .ok (.getfield 34, 3) := by decide +kernel
theorem dX4_alone_33 : decode cX4_alone 33 = .ok (.iload_n 1, 1) := by decide +kernel
theorem dX4_alone_34 : decode cX4_alone 34 = .ok (.aload_n 0, 1) := by decide +kernel
theorem dX4_alone_35 : decode cX4_alone 35 = .ok (.getfield 57, 3) := by decide +kernel
theorem dX4_alone_38 : decode cX4_alone 38 = .ok (.iastore, 1) := by decide +kernel
theorem dX4_alone_39 : decode cX4_alone 39 = .ok (.iconst 1, 1) := by decide +kernel
theorem dX4_alone_40 : decode cX4_alone 40 = .ok (.ireturn, 1) := by decide +kernel
theorem dX4_await_0 : decode cX4_await 0 = .ok (.iconst 0, 1) := by decide +kernel
theorem dX4_await_1 : decode cX4_await 1 = .ok (.istore_n 3, 1) := by decide +kernel
theorem dX4_await_2 : decode cX4_await 2 = .ok (.iconst (-1), 1) := by decide +kernel
theorem dX4_await_3 : decode cX4_await 3 = .ok (.istore 4, 2) := by decide +kernel
theorem dX4_await_5 : decode cX4_await 5 = .ok (.bipush 7, 2) := by decide +kernel
theorem dX4_await_7 : decode cX4_await 7 = .ok (.istore 5, 2) := by decide +kernel
theorem dX4_await_9 : decode cX4_await 9 = .ok (.iload 5, 2) := by decide +kernel
theorem dX4_await_11 : decode cX4_await 11 = .ok (.ifCond .lt 77, 3) := by decide +kernel
theorem dX4_await_14 : decode cX4_await 14 = .ok (.aload_n 0, 1) := by decide +kernel
theorem dX4_await_15 : decode cX4_await 15 = .ok (.getfield 13, 3) := by decide +kernel
theorem dX4_await_18 : decode cX4_await 18 = .ok (.iload 5, 2) := by decide +kernel
theorem dX4_await_20 : decode cX4_await 20 = .ok (.iaload, 1) := by decide +kernel
theorem dX4_await_21 : decode cX4_await 21 = .ok (.ifCond .eq 18, 3) := by decide +kernel
theorem dX4_await_24 : decode cX4_await 24 = .ok (.aload_n 0, 1) := by decide +kernel
theorem dX4_await_25 : decode cX4_await 25 = .ok (.getfield 16, 3) := by decide +kernel
theorem dX4_await_28 : decode cX4_await 28 = .ok (.iload 5, 2) := by decide +kernel
theorem dX4_await_30 : decode cX4_await 30 = .ok (.iaload, 1) := by decide +kernel
theorem dX4_await_31 : decode cX4_await 31 = .ok (.iload_n 1, 1) := by decide +kernel
theorem dX4_await_32 : decode cX4_await 32 = .ok (.if_icmp .ne 7, 3) := by decide +kernel
theorem dX4_await_35 : decode cX4_await 35 = .ok (.iconst 1, 1) := by decide +kernel
theorem dX4_await_36 : decode cX4_await 36 = .ok (.goto 4, 3) := by decide +kernel
theorem dX4_await_39 : decode cX4_await 39 = .ok (.iconst 0, 1) := by decide +kernel
theorem dX4_await_40 : decode cX4_await 40 = .ok (.istore 6, 2) := by decide +kernel
theorem dX4_await_42 : decode cX4_await 42 = .ok (.iload_n 3, 1) := by decide +kernel
theorem dX4_await_43 : decode cX4_await 43 = .ok (.ifCond .ne 8, 3) := by decide +kernel
theorem dX4_await_46 : decode cX4_await 46 = .ok (.iload 6, 2) := by decide +kernel
theorem dX4_await_48 : decode cX4_await 48 = .ok (.ifCond .eq 7, 3) := by decide +kernel
theorem dX4_await_51 : decode cX4_await 51 = .ok (.iconst 1, 1) := by decide +kernel
theorem dX4_await_52 : decode cX4_await 52 = .ok (.goto 4, 3) := by decide +kernel
theorem dX4_await_55 : decode cX4_await 55 = .ok (.iconst 0, 1) := by decide +kernel
theorem dX4_await_56 : decode cX4_await 56 = .ok (.istore_n 3, 1) := by decide +kernel
theorem dX4_await_57 : decode cX4_await 57 = .ok (.iload 6, 2) := by decide +kernel
theorem dX4_await_59 : decode cX4_await 59 = .ok (.ifCond .eq 19, 3) := by decide +kernel
theorem dX4_await_62 : decode cX4_await 62 = .ok (.aload_n 0, 1) := by decide +kernel
theorem dX4_await_63 : decode cX4_await 63 = .ok (.getfield 13, 3) := by decide +kernel
theorem dX4_await_66 : decode cX4_await 66 = .ok (.iload 5, 2) := by decide +kernel
theorem dX4_await_68 : decode cX4_await 68 = .ok (.iaload, 1) := by decide +kernel
theorem dX4_await_69 : decode cX4_await 69 = .ok (.iconst 3, 1) := by decide +kernel
theorem dX4_await_70 : decode cX4_await 70 = .ok (.if_icmp .ne 8, 3) := by decide +kernel
theorem dX4_await_73 : decode cX4_await 73 = .ok (.iload 5, 2) := by decide +kernel
theorem dX4_await_75 : decode cX4_await 75 = .ok (.goto 5, 3) := by decide +kernel
theorem dX4_await_78 : decode cX4_await 78 = .ok (.iload 4, 2) := by decide +kernel
theorem dX4_await_80 : decode cX4_await 80 = .ok (.istore 4, 2) := by decide +kernel
theorem dX4_await_82 : decode cX4_await 82 = .ok (.iinc 5 (-1), 3) := by decide +kernel
theorem dX4_await_85 : decode cX4_await 85 = .ok (.goto (-76), 3) := by decide +kernel
theorem dX4_await_88 : decode cX4_await 88 = .ok (.iload 4, 2) := by decide +kernel
theorem dX4_await_90 : decode cX4_await 90 = .ok (.iconst (-1), 1) := by decide +kernel
theorem dX4_await_91 : decode cX4_await 91 = .ok (.if_icmp .eq 29, 3) := by decide +kernel
theorem dX4_await_94 : decode cX4_await 94 = .ok (.aload_n 0, 1) := by decide +kernel
theorem dX4_await_95 : decode cX4_await 95 = .ok (.getfield 22, 3) := by decide +kernel
theorem dX4_await_98 : decode cX4_await 98 = .ok (.bipush 8, 2) := by decide +kernel
theorem dX4_await_100 : decode cX4_await 100 = .ok (.iload_n 1, 1) := by decide +kernel
theorem dX4_await_101 : decode cX4_await 101 = .ok (.imul, 1) := by decide +kernel
theorem dX4_await_102 : decode cX4_await 102 = .ok (.iload_n 2, 1) := by decide +kernel
theorem dX4_await_103 : decode cX4_await 103 = .ok (.iadd, 1) := by decide +kernel
theorem dX4_await_104 : decode cX4_await 104 = .ok (.aload_n 0, 1) := by decide +kernel
theorem dX4_await_105 : decode cX4_await 105 = .ok (.getfield 19, 3) := by decide +kernel
theorem dX4_await_108 : decode cX4_await 108 = .ok (.iload 4, 2) := by decide +kernel
theorem dX4_await_110 : decode cX4_await 110 = .ok (.iaload, 1) := by decide +kernel
theorem dX4_await_111 : decode cX4_await 111 = .ok (.iastore, 1) := by decide +kernel
theorem dX4_await_112 : decode cX4_await 112 = .ok (.aload_n 0, 1) := by decide +kernel
theorem dX4_await_113 : decode cX4_await 113 = .ok (.iload 4, 2) := by decide +kernel
theorem dX4_await_115 : decode cX4_await 115 = .ok (.invokevirtual 85, 3) := by decide +kernel
theorem dX4_await_118 : decode cX4_await 118 = .ok (.iconst 1, 1) := by decide +kernel
theorem dX4_await_119 : decode cX4_await 119 = .ok (.ireturn, 1) := by decide +kernel
theorem dX4_await_120 : decode cX4_await 120 = .ok (.iload_n 3, 1) := by decide +kernel
theorem dX4_await_121 : decode cX4_await 121 = .ok (.ifCond .ne 17, 3) := by decide +kernel
theorem dX4_await_124 : decode cX4_await 124 = .ok (.aload_n 0, 1) := by decide +kernel
theorem dX4_await_125 : decode cX4_await 125 = .ok (.getfield 22, 3) := by decide +kernel
theorem dX4_await_128 : decode cX4_await 128 = .ok (.bipush 8, 2) := by decide +kernel
theorem dX4_await_130 : decode cX4_await 130 = .ok (.iload_n 1, 1) := by decide +kernel
theorem dX4_await_131 : decode cX4_await 131 = .ok (.imul, 1) := by decide +kernel
theorem dX4_await_132 : decode cX4_await 132 = .ok (.iload_n 2, 1) := by decide +kernel
theorem dX4_await_133 : decode cX4_await 133 = .ok (.iadd, 1) := by decide +kernel
theorem dX4_await_134 : decode cX4_await 134 = .ok (.iconst (-1), 1) := by decide +kernel
theorem dX4_await_135 : decode cX4_await 135 = .ok (.iastore, 1) := by decide +kernel
theorem dX4_await_136 : decode cX4_await 136 = .ok (.iconst 1, 1) := by decide +kernel
theorem dX4_await_137 : decode cX4_await 137 = .ok (.ireturn, 1) := by decide +kernel
theorem dX4_await_138 : decode cX4_await 138 = .ok (.aload_n 0, 1) := by decide +kernel
theorem dX4_await_139 : decode cX4_await 139 = .ok (.getfield 13, 3) := by decide +kernel
theorem dX4_await_142 : decode cX4_await 142 = .ok (.iload_n 1, 1) := by decide +kernel
theorem dX4_await_143 : decode cX4_await 143 = .ok (.iconst 2, 1) := by decide +kernel
theorem dX4_await_144 : decode cX4_await 144 = .ok (.iastore, 1) := by decide +kernel
theorem dX4_await_145 : decode cX4_await 145 = .ok (.aload_n 0, 1) := by decide +kernel
theorem dX4_await_146 : decode cX4_await 146 = .ok (.getfield 25, 3) := by decide +kernel
theorem dX4_await_149 : decode cX4_await 149 = .ok (.iload_n 1, 1) := by decide +kernel
theorem dX4_await_150 : decode cX4_await 150 = .ok (.dup2, 1) := by decide +kernel
theorem dX4_await_151 : decode cX4_await 151 = .ok (.iaload, 1) := by decide +kernel
theorem dX4_await_152 : decode cX4_await 152 = .ok (.iconst 1, 1) := by decide +kernel
theorem dX4_await_153 : decode cX4_await 153 = .ok (.isub, 1) := by decide +kernel
theorem dX4_await_154 : decode cX4_await 154 = .ok (.iastore, 1) := by decide +kernel
theorem dX4_await_155 : decode cX4_await 155 = .ok (.iconst 4, 1) := by decide +kernel
theorem dX4_await_156 : decode cX4_await 156 = .ok (.ireturn, 1) := by decide +kernel
theorem dX4_choose_0 : decode cX4_choose 0 = .ok (.aload_n 0, 1) := by decide +kernel
theorem dX4_choose_1 : decode cX4_choose 1 = .ok (.getfield 37, 3) := by decide +kernel
theorem dX4_choose_4 : decode cX4_choose 4 = .ok (.iconst (-1), 1) := by decide +kernel
theorem dX4_choose_5 : decode cX4_choose 5 = .ok (.if_icmp .eq 29, 3) := by decide +kernel
theorem dX4_choose_8 : decode cX4_choose 8 = .ok (.aload_n 0, 1) := by decide +kernel
theorem dX4_choose_9 : decode cX4_choose 9 = .ok (.getfield 13, 3) := by decide +kernel
theorem dX4_choose_12 : decode cX4_choose 12 = .ok (.aload_n 0, 1) := by decide +kernel
theorem dX4_choose_13 : decode cX4_choose 13 = .ok (.getfield 37, 3) := by decide +kernel
theorem dX4_choose_16 : decode cX4_choose 16 = .ok (.iaload, 1) := by decide +kernel
theorem dX4_choose_17 : decode cX4_choose 17 = .ok (.iconst 1, 1) := by decide +kernel
theorem dX4_choose_18 : decode cX4_choose 18 = .ok (.if_icmp .ne 16, 3) := by decide +kernel
theorem dX4_choose_21 : decode cX4_choose 21 = .ok (.aload_n 0, 1) := by decide +kernel
theorem dX4_choose_22 : decode cX4_choose 22 = .ok (.getfield 88, 3) := by decide +kernel
theorem dX4_choose_25 : decode cX4_choose 25 = .ok (.aload_n 0, 1) := by decide +kernel
theorem dX4_choose_26 : decode cX4_choose 26 = .ok (.getfield 47, 3) := by decide +kernel
theorem dX4_choose_29 : decode cX4_choose 29 = .ok (.if_icmp .ge 5, 3) := by decide +kernel
theorem dX4_choose_32 : decode cX4_choose 32 = .ok (.iconst 1, 1) := by decide +kernel
theorem dX4_choose_33 : decode cX4_choose 33 = .ok (.ireturn, 1) := by decide +kernel
theorem dX4_choose_34 : decode cX4_choose 34 = .ok (.aload_n 0, 1) := by decide +kernel
theorem dX4_choose_35 : decode cX4_choose 35 = .ok (.getfield 37, 3) := by decide +kernel
theorem dX4_choose_38 : decode cX4_choose 38 = .ok (.iconst (-1), 1) := by decide +kernel
theorem dX4_choose_39 : decode cX4_choose 39 = .ok (.if_icmp .ne 7, 3) := by decide +kernel
theorem dX4_choose_42 : decode cX4_choose 42 = .ok (.iconst 0, 1) := by decide +kernel
theorem dX4_choose_43 : decode cX4_choose 43 = .ok (.goto 9, 3) := by decide +kernel
theorem dX4_choose_46 : decode cX4_choose 46 = .ok (.aload_n 0, 1) := by decide +kernel
theorem dX4_choose_47 : decode cX4_choose 47 = .ok (.getfield 37, 3) := by decide +kernel
theorem dX4_choose_50 : decode cX4_choose 50 = .ok (.iconst 1, 1) := by decide +kernel
theorem dX4_choose_51 : decode cX4_choose 51 = .ok (.iadd, 1) := by decide +kernel
theorem dX4_choose_52 : decode cX4_choose 52 = .ok (.istore_n 1, 1) := by decide +kernel
theorem dX4_choose_53 : decode cX4_choose 53 = .ok (.iconst 0, 1) := by decide +kernel
theorem dX4_choose_54 : decode cX4_choose 54 = .ok (.istore_n 2, 1) := by decide +kernel
theorem dX4_choose_55 : decode cX4_choose 55 = .ok (.iload_n 2, 1) := by decide +kernel
theorem dX4_choose_56 : decode cX4_choose 56 = .ok (.bipush 8, 2) := by decide +kernel
theorem dX4_choose_58 : decode cX4_choose 58 = .ok (.if_icmp .ge 38, 3) := by decide +kernel
theorem dX4_choose_61 : decode cX4_choose 61 = .ok (.iload_n 1, 1) := by decide +kernel
theorem dX4_choose_62 : decode cX4_choose 62 = .ok (.iload_n 2, 1) := by decide +kernel
theorem dX4_choose_63 : decode cX4_choose 63 = .ok (.iadd, 1) := by decide +kernel
theorem dX4_choose_64 : decode cX4_choose 64 = .ok (.bipush 8, 2) := by decide +kernel
theorem dX4_choose_66 : decode cX4_choose 66 = .ok (.irem, 1) := by decide +kernel
theorem dX4_choose_67 : decode cX4_choose 67 = .ok (.istore_n 3, 1) := by decide +kernel
theorem dX4_choose_68 : decode cX4_choose 68 = .ok (.aload_n 0, 1) := by decide +kernel
theorem dX4_choose_69 : decode cX4_choose 69 = .ok (.getfield 13, 3) := by decide +kernel
theorem dX4_choose_72 : decode cX4_choose 72 = .ok (.iload_n 3, 1) := by decide +kernel
theorem dX4_choose_73 : decode cX4_choose 73 = .ok (.iaload, 1) := by decide +kernel
theorem dX4_choose_74 : decode cX4_choose 74 = .ok (.iconst 1, 1) := by decide +kernel
theorem dX4_choose_75 : decode cX4_choose 75 = .ok (.if_icmp .ne 15, 3) := by decide +kernel
theorem dX4_choose_78 : decode cX4_choose 78 = .ok (.aload_n 0, 1) := by decide +kernel
theorem dX4_choose_79 : decode cX4_choose 79 = .ok (.iload_n 3, 1) := by decide +kernel
theorem dX4_choose_80 : decode cX4_choose 80 = .ok (.putfield 37, 3) := by decide +kernel
theorem dX4_choose_83 : decode cX4_choose 83 = .ok (.aload_n 0, 1) := by decide +kernel
theorem dX4_choose_84 : decode cX4_choose 84 = .ok (.iconst 0, 1) := by decide +kernel
theorem dX4_choose_85 : decode cX4_choose 85 = .ok (.putfield 88, 3) := by decide +kernel
theorem dX4_choose_88 : decode cX4_choose 88 = .ok (.iconst 1, 1) := by decide +kernel
theorem dX4_choose_89 : decode cX4_choose 89 = .ok (.ireturn, 1) := by decide +kernel
theorem dX4_choose_90 : decode cX4_choose 90 = .ok (.iinc 2 1, 3) := by decide +kernel
theorem dX4_choose_93 : decode cX4_choose 93 = .ok (.goto (-38), 3) := by decide +kernel
theorem dX4_choose_96 : decode cX4_choose 96 = .ok (.aload_n 0, 1) := by decide +kernel
theorem dX4_choose_97 : decode cX4_choose 97 = .ok (.iconst (-1), 1) := by decide +kernel
theorem dX4_choose_98 : decode cX4_choose 98 = .ok (.putfield 37, 3) := by decide +kernel
theorem dX4_choose_101 : decode cX4_choose 101 = .ok (.iconst 0, 1) := by decide +kernel
theorem dX4_choose_102 : decode cX4_choose 102 = .ok (.ireturn, 1) := by decide +kernel
theorem dX4_code_0 : decode cX4_code 0 = .ok (.iload_n 1, 1) := by decide +kernel
theorem dX4_code_1 : decode cX4_code 1 = .ok (.invokestatic 68, 3) := by decide +kernel
theorem dX4_code_4 : decode cX4_code 4 = .ok (.ifCond .eq 22, 3) := by decide +kernel
theorem dX4_code_7 : decode cX4_code 7 = .ok (.aload_n 0, 1) := by decide +kernel
theorem dX4_code_8 : decode cX4_code 8 = .ok (.getfield 13, 3) := by decide +kernel
theorem dX4_code_11 : decode cX4_code 11 = .ok (.iload_n 1, 1) := by decide +kernel
theorem dX4_code_12 : decode cX4_code 12 = .ok (.iaload, 1) := by decide +kernel
theorem dX4_code_13 : decode cX4_code 13 = .ok (.iconst 3, 1) := by decide +kernel
theorem dX4_code_14 : decode cX4_code 14 = .ok (.if_icmp .ne 12, 3) := by decide +kernel
theorem dX4_code_17 : decode cX4_code 17 = .ok (.aload_n 0, 1) := by decide +kernel
theorem dX4_code_18 : decode cX4_code 18 = .ok (.getfield 19, 3) := by decide +kernel
theorem dX4_code_21 : decode cX4_code 21 = .ok (.iload_n 1, 1) := by decide +kernel
theorem dX4_code_22 : decode cX4_code 22 = .ok (.iaload, 1) := by decide +kernel
theorem dX4_code_23 : decode cX4_code 23 = .ok (.goto 4, 3) := by decide +kernel
theorem dX4_code_26 : decode cX4_code 26 = .ok (.iconst 0, 1) := by decide +kernel
theorem dX4_code_27 : decode cX4_code 27 = .ok (.ireturn, 1) := by decide +kernel

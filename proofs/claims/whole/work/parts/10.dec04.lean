/-! decode rows (written by program) -/
theorem dX3_moveBreak_0 : decode cX3_moveBreak 0 = .ok (.aload_n 0, 1) := by decide +kernel
theorem dX3_moveBreak_1 : decode cX3_moveBreak 1 = .ok (.getfield 20, 3) := by decide +kernel
theorem dX3_moveBreak_4 : decode cX3_moveBreak 4 = .ok (.iload_n 1, 1) := by decide +kernel
theorem dX3_moveBreak_5 : decode cX3_moveBreak 5 = .ok (.aaload, 1) := by decide +kernel
theorem dX3_moveBreak_6 : decode cX3_moveBreak 6 = .ok (.astore 4, 2) := by decide +kernel
theorem dX3_moveBreak_8 : decode cX3_moveBreak 8 = .ok (.aload 4, 2) := by decide +kernel
theorem dX3_moveBreak_10 : decode cX3_moveBreak 10 = .ok (.getfield 56, 3) := by decide +kernel
theorem dX3_moveBreak_13 : decode cX3_moveBreak 13 = .ok (.istore 5, 2) := by decide +kernel
theorem dX3_moveBreak_15 : decode cX3_moveBreak 15 = .ok (.iload 5, 2) := by decide +kernel
theorem dX3_moveBreak_17 : decode cX3_moveBreak 17 = .ok (.iload_n 3, 1) := by decide +kernel
theorem dX3_moveBreak_18 : decode cX3_moveBreak 18 = .ok (.iadd, 1) := by decide +kernel
theorem dX3_moveBreak_19 : decode cX3_moveBreak 19 = .ok (.istore 6, 2) := by decide +kernel
theorem dX3_moveBreak_21 : decode cX3_moveBreak 21 = .ok (.iload 6, 2) := by decide +kernel
theorem dX3_moveBreak_23 : decode cX3_moveBreak 23 = .ok (.ifCond .lt 10, 3) := by decide +kernel
theorem dX3_moveBreak_26 : decode cX3_moveBreak 26 = .ok (.iload 6, 2) := by decide +kernel
theorem dX3_moveBreak_28 : decode cX3_moveBreak 28 = .ok (.bipush 64, 2) := by decide +kernel
theorem dX3_moveBreak_30 : decode cX3_moveBreak 30 = .ok (.if_icmp .le 13, 3) := by decide +kernel
theorem dX3_moveBreak_33 : decode cX3_moveBreak 33 = .ok (.aload 4, 2) := by decide +kernel
theorem dX3_moveBreak_35 : decode cX3_moveBreak 35 = .ok (.getfield 103, 3) := by decide +kernel
theorem dX3_moveBreak_38 : decode cX3_moveBreak 38 = .ok (.iload_n 2, 1) := by decide +kernel
theorem dX3_moveBreak_39 : decode cX3_moveBreak 39 = .ok (.iconst (-1), 1) := by decide +kernel
theorem dX3_moveBreak_40 : decode cX3_moveBreak 40 = .ok (.iastore, 1) := by decide +kernel
theorem dX3_moveBreak_41 : decode cX3_moveBreak 41 = .ok (.iconst 1, 1) := by decide +kernel
theorem dX3_moveBreak_42 : decode cX3_moveBreak 42 = .ok (.ireturn, 1) := by decide +kernel
theorem dX3_moveBreak_43 : decode cX3_moveBreak 43 = .ok (.aload 4, 2) := by decide +kernel
theorem dX3_moveBreak_45 : decode cX3_moveBreak 45 = .ok (.getfield 103, 3) := by decide +kernel
theorem dX3_moveBreak_48 : decode cX3_moveBreak 48 = .ok (.iload_n 2, 1) := by decide +kernel
theorem dX3_moveBreak_49 : decode cX3_moveBreak 49 = .ok (.iload 5, 2) := by decide +kernel
theorem dX3_moveBreak_51 : decode cX3_moveBreak 51 = .ok (.iastore, 1) := by decide +kernel
theorem dX3_moveBreak_52 : decode cX3_moveBreak 52 = .ok (.aload 4, 2) := by decide +kernel
theorem dX3_moveBreak_54 : decode cX3_moveBreak 54 = .ok (.iload 6, 2) := by decide +kernel
theorem dX3_moveBreak_56 : decode cX3_moveBreak 56 = .ok (.putfield 56, 3) := by decide +kernel
theorem dX3_moveBreak_59 : decode cX3_moveBreak 59 = .ok (.aload_n 0, 1) := by decide +kernel
theorem dX3_moveBreak_60 : decode cX3_moveBreak 60 = .ok (.aload 4, 2) := by decide +kernel
theorem dX3_moveBreak_62 : decode cX3_moveBreak 62 = .ok (.iload 6, 2) := by decide +kernel
theorem dX3_moveBreak_64 : decode cX3_moveBreak 64 = .ok (.bipush 8, 2) := by decide +kernel
theorem dX3_moveBreak_66 : decode cX3_moveBreak 66 = .ok (.iadd, 1) := by decide +kernel
theorem dX3_moveBreak_67 : decode cX3_moveBreak 67 = .ok (.iconst 1, 1) := by decide +kernel
theorem dX3_moveBreak_68 : decode cX3_moveBreak 68 = .ok (.isub, 1) := by decide +kernel
theorem dX3_moveBreak_69 : decode cX3_moveBreak 69 = .ok (.bipush 8, 2) := by decide +kernel
theorem dX3_moveBreak_71 : decode cX3_moveBreak 71 = .ok (.idiv, 1) := by decide +kernel
theorem dX3_moveBreak_72 : decode cX3_moveBreak 72 = .ok (.invokevirtual 171, 3) := by decide +kernel
theorem dX3_moveBreak_75 : decode cX3_moveBreak 75 = .ok (.iload 6, 2) := by decide +kernel
theorem dX3_moveBreak_77 : decode cX3_moveBreak 77 = .ok (.bipush 8, 2) := by decide +kernel
theorem dX3_moveBreak_79 : decode cX3_moveBreak 79 = .ok (.idiv, 1) := by decide +kernel
theorem dX3_moveBreak_80 : decode cX3_moveBreak 80 = .ok (.istore 7, 2) := by decide +kernel
theorem dX3_moveBreak_82 : decode cX3_moveBreak 82 = .ok (.iload 6, 2) := by decide +kernel
theorem dX3_moveBreak_84 : decode cX3_moveBreak 84 = .ok (.iload 5, 2) := by decide +kernel
theorem dX3_moveBreak_86 : decode cX3_moveBreak 86 = .ok (.if_icmp .ge 15, 3) := by decide +kernel
theorem dX3_moveBreak_89 : decode cX3_moveBreak 89 = .ok (.aload 4, 2) := by decide +kernel
theorem dX3_moveBreak_91 : decode cX3_moveBreak 91 = .ok (.getfield 112, 3) := by decide +kernel
theorem dX3_moveBreak_94 : decode cX3_moveBreak 94 = .ok (.iload 7, 2) := by decide +kernel
theorem dX3_moveBreak_96 : decode cX3_moveBreak 96 = .ok (.iaload, 1) := by decide +kernel
theorem dX3_moveBreak_97 : decode cX3_moveBreak 97 = .ok (.iconst (-1), 1) := by decide +kernel
theorem dX3_moveBreak_98 : decode cX3_moveBreak 98 = .ok (.if_icmp .ne 5, 3) := by decide +kernel
theorem dX3_moveBreak_101 : decode cX3_moveBreak 101 = .ok (.iconst 1, 1) := by decide +kernel
theorem dX3_moveBreak_102 : decode cX3_moveBreak 102 = .ok (.ireturn, 1) := by decide +kernel
theorem dX3_moveBreak_103 : decode cX3_moveBreak 103 = .ok (.aload_n 0, 1) := by decide +kernel
theorem dX3_moveBreak_104 : decode cX3_moveBreak 104 = .ok (.aload 4, 2) := by decide +kernel
theorem dX3_moveBreak_106 : decode cX3_moveBreak 106 = .ok (.iload 7, 2) := by decide +kernel
theorem dX3_moveBreak_108 : decode cX3_moveBreak 108 = .ok (.invokevirtual 59, 3) := by decide +kernel
theorem dX3_moveBreak_111 : decode cX3_moveBreak 111 = .ok (.istore 8, 2) := by decide +kernel
theorem dX3_moveBreak_113 : decode cX3_moveBreak 113 = .ok (.iload 8, 2) := by decide +kernel
theorem dX3_moveBreak_115 : decode cX3_moveBreak 115 = .ok (.ifCond .eq 11, 3) := by decide +kernel
theorem dX3_moveBreak_118 : decode cX3_moveBreak 118 = .ok (.aload_n 0, 1) := by decide +kernel
theorem dX3_moveBreak_119 : decode cX3_moveBreak 119 = .ok (.iload_n 1, 1) := by decide +kernel
theorem dX3_moveBreak_120 : decode cX3_moveBreak 120 = .ok (.iload 8, 2) := by decide +kernel
theorem dX3_moveBreak_122 : decode cX3_moveBreak 122 = .ok (.invokevirtual 74, 3) := by decide +kernel
theorem dX3_moveBreak_125 : decode cX3_moveBreak 125 = .ok (.ireturn, 1) := by decide +kernel
theorem dX3_moveBreak_126 : decode cX3_moveBreak 126 = .ok (.aload_n 0, 1) := by decide +kernel
theorem dX3_moveBreak_127 : decode cX3_moveBreak 127 = .ok (.aload 4, 2) := by decide +kernel
theorem dX3_moveBreak_129 : decode cX3_moveBreak 129 = .ok (.iload 6, 2) := by decide +kernel
theorem dX3_moveBreak_131 : decode cX3_moveBreak 131 = .ok (.invokevirtual 175, 3) := by decide +kernel
theorem dX3_moveBreak_134 : decode cX3_moveBreak 134 = .ok (.iconst 1, 1) := by decide +kernel
theorem dX3_moveBreak_135 : decode cX3_moveBreak 135 = .ok (.ireturn, 1) := by decide +kernel
theorem dX3_nextReady_0 : decode cX3_nextReady 0 = .ok (.iconst 1, 1) := by decide +kernel
theorem dX3_nextReady_1 : decode cX3_nextReady 1 = .ok (.istore_n 1, 1) := by decide +kernel
theorem dX3_nextReady_2 : decode cX3_nextReady 2 = .ok (.iload_n 1, 1) := by decide +kernel
theorem dX3_nextReady_3 : decode cX3_nextReady 3 = .ok (.bipush 8, 2) := by decide +kernel
theorem dX3_nextReady_5 : decode cX3_nextReady 5 = .ok (.if_icmp .gt 34, 3) := by decide +kernel
theorem dX3_nextReady_8 : decode cX3_nextReady 8 = .ok (.aload_n 0, 1) := by decide +kernel
theorem dX3_nextReady_9 : decode cX3_nextReady 9 = .ok (.getfield 40, 3) := by decide +kernel
theorem dX3_nextReady_12 : decode cX3_nextReady 12 = .ok (.iload_n 1, 1) := by decide +kernel
theorem dX3_nextReady_13 : decode cX3_nextReady 13 = .ok (.iadd, 1) := by decide +kernel
theorem dX3_nextReady_14 : decode cX3_nextReady 14 = .ok (.bipush 8, 2) := by decide +kernel
theorem dX3_nextReady_16 : decode cX3_nextReady 16 = .ok (.irem, 1) := by decide +kernel
theorem dX3_nextReady_17 : decode cX3_nextReady 17 = .ok (.istore_n 2, 1) := by decide +kernel
theorem dX3_nextReady_18 : decode cX3_nextReady 18 = .ok (.aload_n 0, 1) := by decide +kernel
theorem dX3_nextReady_19 : decode cX3_nextReady 19 = .ok (.getfield 20, 3) := by decide +kernel
theorem dX3_nextReady_22 : decode cX3_nextReady 22 = .ok (.iload_n 2, 1) := by decide +kernel
theorem dX3_nextReady_23 : decode cX3_nextReady 23 = .ok (.aaload, 1) := by decide +kernel
theorem dX3_nextReady_24 : decode cX3_nextReady 24 = .ok (.getfield 90, 3) := by decide +kernel
theorem dX3_nextReady_27 : decode cX3_nextReady 27 = .ok (.iconst 1, 1) := by decide +kernel
theorem dX3_nextReady_28 : decode cX3_nextReady 28 = .ok (.if_icmp .ne 5, 3) := by decide +kernel
theorem dX3_nextReady_31 : decode cX3_nextReady 31 = .ok (.iload_n 2, 1) := by decide +kernel
theorem dX3_nextReady_32 : decode cX3_nextReady 32 = .ok (.ireturn, 1) := by decide +kernel
theorem dX3_nextReady_33 : decode cX3_nextReady 33 = .ok (.iinc 1 1, 3) := by decide +kernel
theorem dX3_nextReady_36 : decode cX3_nextReady 36 = .ok (.goto (-34), 3) := by decide +kernel
theorem dX3_nextReady_39 : decode cX3_nextReady 39 = .ok (.iconst (-1), 1) := by decide +kernel
theorem dX3_nextReady_40 : decode cX3_nextReady 40 = .ok (.ireturn, 1) := by decide +kernel
theorem dX3_ownPage_0 : decode cX3_ownPage 0 = .ok (.aload_n 1, 1) := by decide +kernel
theorem dX3_ownPage_1 : decode cX3_ownPage 1 = .ok (.getfield 112, 3) := by decide +kernel
theorem dX3_ownPage_4 : decode cX3_ownPage 4 = .ok (.iload_n 2, 1) := by decide +kernel
theorem dX3_ownPage_5 : decode cX3_ownPage 5 = .ok (.iaload, 1) := by decide +kernel
theorem dX3_ownPage_6 : decode cX3_ownPage 6 = .ok (.istore_n 3, 1) := by decide +kernel
theorem dX3_ownPage_7 : decode cX3_ownPage 7 = .ok (.iload_n 3, 1) := by decide +kernel
theorem dX3_ownPage_8 : decode cX3_ownPage 8 = .ok (.iconst (-1), 1) := by decide +kernel
theorem dX3_ownPage_9 : decode cX3_ownPage 9 = .ok (.if_icmp .eq 18, 3) := by decide +kernel
theorem dX3_ownPage_12 : decode cX3_ownPage 12 = .ok (.aload_n 0, 1) := by decide +kernel
theorem dX3_ownPage_13 : decode cX3_ownPage 13 = .ok (.getfield 14, 3) := by decide +kernel
theorem dX3_ownPage_16 : decode cX3_ownPage 16 = .ok (.getfield 115, 3) := by decide +kernel
theorem dX3_ownPage_19 : decode cX3_ownPage 19 = .ok (.iload_n 3, 1) := by decide +kernel
theorem dX3_ownPage_20 : decode cX3_ownPage 20 = .ok (.iaload, 1) := by decide +kernel
theorem dX3_ownPage_21 : decode cX3_ownPage 21 = .ok (.iconst 1, 1) := by decide +kernel
theorem dX3_ownPage_22 : decode cX3_ownPage 22 = .ok (.if_icmp .ne 5, 3) := by decide +kernel
theorem dX3_ownPage_25 : decode cX3_ownPage 25 = .ok (.iconst 0, 1) := by decide +kernel
theorem dX3_ownPage_26 : decode cX3_ownPage 26 = .ok (.ireturn, 1) := by decide +kernel
theorem dX3_ownPage_27 : decode cX3_ownPage 27 = .ok (.aload_n 0, 1) := by decide +kernel
theorem dX3_ownPage_28 : decode cX3_ownPage 28 = .ok (.getfield 14, 3) := by decide +kernel
theorem dX3_ownPage_31 : decode cX3_ownPage 31 = .ok (.invokevirtual 184, 3) := by decide +kernel
theorem dX3_ownPage_34 : decode cX3_ownPage 34 = .ok (.istore 4, 2) := by decide +kernel
theorem dX3_ownPage_36 : decode cX3_ownPage 36 = .ok (.iload 4, 2) := by decide +kernel
theorem dX3_ownPage_38 : decode cX3_ownPage 38 = .ok (.iconst (-1), 1) := by decide +kernel
theorem dX3_ownPage_39 : decode cX3_ownPage 39 = .ok (.if_icmp .ne 6, 3) := by decide +kernel
theorem dX3_ownPage_42 : decode cX3_ownPage 42 = .ok (.bipush (-13), 2) := by decide +kernel
theorem dX3_ownPage_44 : decode cX3_ownPage 44 = .ok (.ireturn, 1) := by decide +kernel
theorem dX3_ownPage_45 : decode cX3_ownPage 45 = .ok (.iload_n 3, 1) := by decide +kernel
theorem dX3_ownPage_46 : decode cX3_ownPage 46 = .ok (.iconst (-1), 1) := by decide +kernel
theorem dX3_ownPage_47 : decode cX3_ownPage 47 = .ok (.if_icmp .eq 21, 3) := by decide +kernel
theorem dX3_ownPage_50 : decode cX3_ownPage 50 = .ok (.aload_n 0, 1) := by decide +kernel
theorem dX3_ownPage_51 : decode cX3_ownPage 51 = .ok (.getfield 14, 3) := by decide +kernel
theorem dX3_ownPage_54 : decode cX3_ownPage 54 = .ok (.iload_n 3, 1) := by decide +kernel
theorem dX3_ownPage_55 : decode cX3_ownPage 55 = .ok (.iload 4, 2) := by decide +kernel
theorem dX3_ownPage_57 : decode cX3_ownPage 57 = .ok (.invokevirtual 187, 3) := by decide +kernel
theorem dX3_ownPage_60 : decode cX3_ownPage 60 = .ok (.aload_n 0, 1) := by decide +kernel
theorem dX3_ownPage_61 : decode cX3_ownPage 61 = .ok (.getfield 14, 3) := by decide +kernel
theorem dX3_ownPage_64 : decode cX3_ownPage 64 = .ok (.iload_n 3, 1) := by decide +kernel
theorem dX3_ownPage_65 : decode cX3_ownPage 65 = .ok (.invokevirtual 191, 3) := by decide +kernel
theorem dX3_ownPage_68 : decode cX3_ownPage 68 = .ok (.aload_n 1, 1) := by decide +kernel
theorem dX3_ownPage_69 : decode cX3_ownPage 69 = .ok (.getfield 112, 3) := by decide +kernel
theorem dX3_ownPage_72 : decode cX3_ownPage 72 = .ok (.iload_n 2, 1) := by decide +kernel
theorem dX3_ownPage_73 : decode cX3_ownPage 73 = .ok (.iload 4, 2) := by decide +kernel
theorem dX3_ownPage_75 : decode cX3_ownPage 75 = .ok (.iastore, 1) := by decide +kernel
theorem dX3_ownPage_76 : decode cX3_ownPage 76 = .ok (.iconst 0, 1) := by decide +kernel
theorem dX3_ownPage_77 : decode cX3_ownPage 77 = .ok (.ireturn, 1) := by decide +kernel
theorem dX3_parent_0 : decode cX3_parent 0 = .ok (.iload_n 1, 1) := by decide +kernel
theorem dX3_parent_1 : decode cX3_parent 1 = .ok (.invokestatic 87, 3) := by decide +kernel
theorem dX3_parent_4 : decode cX3_parent 4 = .ok (.ifCond .eq 15, 3) := by decide +kernel
theorem dX3_parent_7 : decode cX3_parent 7 = .ok (.aload_n 0, 1) := by decide +kernel
theorem dX3_parent_8 : decode cX3_parent 8 = .ok (.getfield 20, 3) := by decide +kernel
theorem dX3_parent_11 : decode cX3_parent 11 = .ok (.iload_n 1, 1) := by decide +kernel
theorem dX3_parent_12 : decode cX3_parent 12 = .ok (.aaload, 1) := by decide +kernel
theorem dX3_parent_13 : decode cX3_parent 13 = .ok (.getfield 81, 3) := by decide +kernel
theorem dX3_parent_16 : decode cX3_parent 16 = .ok (.goto 4, 3) := by decide +kernel
theorem dX3_parent_19 : decode cX3_parent 19 = .ok (.iconst (-1), 1) := by decide +kernel
theorem dX3_parent_20 : decode cX3_parent 20 = .ok (.ireturn, 1) := by decide +kernel
theorem dX3_peek_0 : decode cX3_peek 0 = .ok (.aload_n 0, 1) := by decide +kernel
theorem dX3_peek_1 : decode cX3_peek 1 = .ok (.iload_n 1, 1) := by decide +kernel
theorem dX3_peek_2 : decode cX3_peek 2 = .ok (.invokevirtual 70, 3) := by decide +kernel
theorem dX3_peek_5 : decode cX3_peek 5 = .ok (.ifCond .eq 16, 3) := by decide +kernel
theorem dX3_peek_8 : decode cX3_peek 8 = .ok (.aload_n 0, 1) := by decide +kernel
theorem dX3_peek_9 : decode cX3_peek 9 = .ok (.getfield 20, 3) := by decide +kernel
theorem dX3_peek_12 : decode cX3_peek 12 = .ok (.iload_n 1, 1) := by decide +kernel
theorem dX3_peek_13 : decode cX3_peek 13 = .ok (.aaload, 1) := by decide +kernel
theorem dX3_peek_14 : decode cX3_peek 14 = .ok (.iload_n 2, 1) := by decide +kernel
theorem dX3_peek_15 : decode cX3_peek 15 = .ok (.invokevirtual 106, 3) := by decide +kernel
theorem dX3_peek_18 : decode cX3_peek 18 = .ok (.ifCond .ne 5, 3) := by decide +kernel
theorem dX3_peek_21 : decode cX3_peek 21 = .ok (.iconst 0, 1) := by decide +kernel
theorem dX3_peek_22 : decode cX3_peek 22 = .ok (.ireturn, 1) := by decide +kernel
theorem dX3_peek_23 : decode cX3_peek 23 = .ok (.aload_n 0, 1) := by decide +kernel
theorem dX3_peek_24 : decode cX3_peek 24 = .ok (.aload_n 0, 1) := by decide +kernel
theorem dX3_peek_25 : decode cX3_peek 25 = .ok (.getfield 20, 3) := by decide +kernel
theorem dX3_peek_28 : decode cX3_peek 28 = .ok (.iload_n 1, 1) := by decide +kernel
theorem dX3_peek_29 : decode cX3_peek 29 = .ok (.aaload, 1) := by decide +kernel
theorem dX3_peek_30 : decode cX3_peek 30 = .ok (.iload_n 2, 1) := by decide +kernel
theorem dX3_peek_31 : decode cX3_peek 31 = .ok (.invokevirtual 109, 3) := by decide +kernel
theorem dX3_peek_34 : decode cX3_peek 34 = .ok (.ireturn, 1) := by decide +kernel
theorem dX3_print_0 : decode cX3_print 0 = .ok (.aload_n 0, 1) := by decide +kernel
theorem dX3_print_1 : decode cX3_print 1 = .ok (.getfield 28, 3) := by decide +kernel
theorem dX3_print_4 : decode cX3_print 4 = .ok (.iload_n 1, 1) := by decide +kernel
theorem dX3_print_5 : decode cX3_print 5 = .ok (.invokevirtual 124, 3) := by decide +kernel
theorem dX3_print_8 : decode cX3_print 8 = .ok (.ireturn, 1) := by decide +kernel
theorem dX3_printed_0 : decode cX3_printed 0 = .ok (.aload_n 0, 1) := by decide +kernel
theorem dX3_printed_1 : decode cX3_printed 1 = .ok (.getfield 28, 3) := by decide +kernel
theorem dX3_printed_4 : decode cX3_printed 4 = .ok (.getfield 121, 3) := by decide +kernel
theorem dX3_printed_7 : decode cX3_printed 7 = .ok (.ireturn, 1) := by decide +kernel
theorem dX3_putWord_0 : decode cX3_putWord 0 = .ok (.aload_n 1, 1) := by decide +kernel
theorem dX3_putWord_1 : decode cX3_putWord 1 = .ok (.getfield 112, 3) := by decide +kernel
theorem dX3_putWord_4 : decode cX3_putWord 4 = .ok (.iload_n 2, 1) := by decide +kernel
theorem dX3_putWord_5 : decode cX3_putWord 5 = .ok (.bipush 8, 2) := by decide +kernel
theorem dX3_putWord_7 : decode cX3_putWord 7 = .ok (.idiv, 1) := by decide +kernel
theorem dX3_putWord_8 : decode cX3_putWord 8 = .ok (.iaload, 1) := by decide +kernel
theorem dX3_putWord_9 : decode cX3_putWord 9 = .ok (.istore 4, 2) := by decide +kernel
theorem dX3_putWord_11 : decode cX3_putWord 11 = .ok (.iload 4, 2) := by decide +kernel
theorem dX3_putWord_13 : decode cX3_putWord 13 = .ok (.iconst (-1), 1) := by decide +kernel
theorem dX3_putWord_14 : decode cX3_putWord 14 = .ok (.if_icmp .eq 22, 3) := by decide +kernel
theorem dX3_putWord_17 : decode cX3_putWord 17 = .ok (.aload_n 0, 1) := by decide +kernel
theorem dX3_putWord_18 : decode cX3_putWord 18 = .ok (.getfield 14, 3) := by decide +kernel
theorem dX3_putWord_21 : decode cX3_putWord 21 = .ok (.getfield 194, 3) := by decide +kernel
theorem dX3_putWord_24 : decode cX3_putWord 24 = .ok (.iload 4, 2) := by decide +kernel
theorem dX3_putWord_26 : decode cX3_putWord 26 = .ok (.bipush 8, 2) := by decide +kernel
theorem dX3_putWord_28 : decode cX3_putWord 28 = .ok (.imul, 1) := by decide +kernel
theorem dX3_putWord_29 : decode cX3_putWord 29 = .ok (.iload_n 2, 1) := by decide +kernel
theorem dX3_putWord_30 : decode cX3_putWord 30 = .ok (.bipush 8, 2) := by decide +kernel
theorem dX3_putWord_32 : decode cX3_putWord 32 = .ok (.irem, 1) := by decide +kernel
theorem dX3_putWord_33 : decode cX3_putWord 33 = .ok (.iadd, 1) := by decide +kernel
theorem dX3_putWord_34 : decode cX3_putWord 34 = .ok (.iload_n 3, 1) := by decide +kernel
theorem dX3_putWord_35 : decode cX3_putWord 35 = .ok (.iastore, 1) := by decide +kernel
theorem dX3_putWord_36 : decode cX3_putWord 36 = .ok (.return_, 1) := by decide +kernel
theorem dX3_readInto_0 : decode cX3_readInto 0 = .ok (.aload_n 0, 1) := by decide +kernel
theorem dX3_readInto_1 : decode cX3_readInto 1 = .ok (.getfield 20, 3) := by decide +kernel
theorem dX3_readInto_4 : decode cX3_readInto 4 = .ok (.iload_n 1, 1) := by decide +kernel
theorem dX3_readInto_5 : decode cX3_readInto 5 = .ok (.aaload, 1) := by decide +kernel
theorem dX3_readInto_6 : decode cX3_readInto 6 = .ok (.astore 4, 2) := by decide +kernel
theorem dX3_readInto_8 : decode cX3_readInto 8 = .ok (.aload_n 0, 1) := by decide +kernel
theorem dX3_readInto_9 : decode cX3_readInto 9 = .ok (.aload 4, 2) := by decide +kernel
theorem dX3_readInto_11 : decode cX3_readInto 11 = .ok (.iload_n 3, 1) := by decide +kernel
theorem dX3_readInto_12 : decode cX3_readInto 12 = .ok (.invokevirtual 134, 3) := by decide +kernel
theorem dX3_readInto_15 : decode cX3_readInto 15 = .ok (.istore 5, 2) := by decide +kernel
theorem dX3_readInto_17 : decode cX3_readInto 17 = .ok (.iload 5, 2) := by decide +kernel
theorem dX3_readInto_19 : decode cX3_readInto 19 = .ok (.ifCond .eq 11, 3) := by decide +kernel
theorem dX3_readInto_22 : decode cX3_readInto 22 = .ok (.aload_n 0, 1) := by decide +kernel
theorem dX3_readInto_23 : decode cX3_readInto 23 = .ok (.iload_n 1, 1) := by decide +kernel
theorem dX3_readInto_24 : decode cX3_readInto 24 = .ok (.iload 5, 2) := by decide +kernel
theorem dX3_readInto_26 : decode cX3_readInto 26 = .ok (.invokevirtual 74, 3) := by decide +kernel
theorem dX3_readInto_29 : decode cX3_readInto 29 = .ok (.ireturn, 1) := by decide +kernel
theorem dX3_readInto_30 : decode cX3_readInto 30 = .ok (.aload 4, 2) := by decide +kernel
theorem dX3_readInto_32 : decode cX3_readInto 32 = .ok (.getfield 103, 3) := by decide +kernel
theorem dX3_readInto_35 : decode cX3_readInto 35 = .ok (.iload_n 2, 1) := by decide +kernel
theorem dX3_readInto_36 : decode cX3_readInto 36 = .ok (.aload_n 0, 1) := by decide +kernel
theorem dX3_readInto_37 : decode cX3_readInto 37 = .ok (.aload 4, 2) := by decide +kernel
theorem dX3_readInto_39 : decode cX3_readInto 39 = .ok (.iload_n 3, 1) := by decide +kernel
theorem dX3_readInto_40 : decode cX3_readInto 40 = .ok (.invokevirtual 109, 3) := by decide +kernel
theorem dX3_readInto_43 : decode cX3_readInto 43 = .ok (.iastore, 1) := by decide +kernel
theorem dX3_readInto_44 : decode cX3_readInto 44 = .ok (.iconst 1, 1) := by decide +kernel
theorem dX3_readInto_45 : decode cX3_readInto 45 = .ok (.ireturn, 1) := by decide +kernel
theorem dX3_reap_0 : decode cX3_reap 0 = .ok (.aload_n 0, 1) := by decide +kernel
theorem dX3_reap_1 : decode cX3_reap 1 = .ok (.iload_n 1, 1) := by decide +kernel
theorem dX3_reap_2 : decode cX3_reap 2 = .ok (.invokevirtual 78, 3) := by decide +kernel
theorem dX3_reap_5 : decode cX3_reap 5 = .ok (.ifCond .eq 16, 3) := by decide +kernel
theorem dX3_reap_8 : decode cX3_reap 8 = .ok (.aload_n 0, 1) := by decide +kernel
theorem dX3_reap_9 : decode cX3_reap 9 = .ok (.getfield 20, 3) := by decide +kernel
theorem dX3_reap_12 : decode cX3_reap 12 = .ok (.iload_n 1, 1) := by decide +kernel
theorem dX3_reap_13 : decode cX3_reap 13 = .ok (.aaload, 1) := by decide +kernel
theorem dX3_reap_14 : decode cX3_reap 14 = .ok (.getfield 81, 3) := by decide +kernel
theorem dX3_reap_17 : decode cX3_reap 17 = .ok (.iconst (-1), 1) := by decide +kernel
theorem dX3_reap_18 : decode cX3_reap 18 = .ok (.if_icmp .eq 5, 3) := by decide +kernel
theorem dX3_reap_21 : decode cX3_reap 21 = .ok (.iconst (-1), 1) := by decide +kernel
theorem dX3_reap_22 : decode cX3_reap 22 = .ok (.ireturn, 1) := by decide +kernel
theorem dX3_reap_23 : decode cX3_reap 23 = .ok (.aload_n 0, 1) := by decide +kernel
theorem dX3_reap_24 : decode cX3_reap 24 = .ok (.getfield 20, 3) := by decide +kernel
theorem dX3_reap_27 : decode cX3_reap 27 = .ok (.iload_n 1, 1) := by decide +kernel
theorem dX3_reap_28 : decode cX3_reap 28 = .ok (.aaload, 1) := by decide +kernel
theorem dX3_reap_29 : decode cX3_reap 29 = .ok (.invokevirtual 84, 3) := by decide +kernel
theorem dX3_reap_32 : decode cX3_reap 32 = .ok (.ireturn, 1) := by decide +kernel
theorem dX3_register_0 : decode cX3_register 0 = .ok (.aload_n 0, 1) := by decide +kernel
theorem dX3_register_1 : decode cX3_register 1 = .ok (.iload_n 1, 1) := by decide +kernel
theorem dX3_register_2 : decode cX3_register 2 = .ok (.invokevirtual 70, 3) := by decide +kernel
theorem dX3_register_5 : decode cX3_register 5 = .ok (.ifCond .eq 13, 3) := by decide +kernel
theorem dX3_register_8 : decode cX3_register 8 = .ok (.iload_n 2, 1) := by decide +kernel
theorem dX3_register_9 : decode cX3_register 9 = .ok (.ifCond .lt 9, 3) := by decide +kernel
theorem dX3_register_12 : decode cX3_register 12 = .ok (.iload_n 2, 1) := by decide +kernel
theorem dX3_register_13 : decode cX3_register 13 = .ok (.bipush 9, 2) := by decide +kernel
theorem dX3_register_15 : decode cX3_register 15 = .ok (.if_icmp .le 5, 3) := by decide +kernel
theorem dX3_register_18 : decode cX3_register 18 = .ok (.iconst 0, 1) := by decide +kernel
theorem dX3_register_19 : decode cX3_register 19 = .ok (.ireturn, 1) := by decide +kernel
theorem dX3_register_20 : decode cX3_register 20 = .ok (.iload_n 2, 1) := by decide +kernel
theorem dX3_register_21 : decode cX3_register 21 = .ok (.bipush 8, 2) := by decide +kernel
theorem dX3_register_23 : decode cX3_register 23 = .ok (.if_icmp .ne 13, 3) := by decide +kernel
theorem dX3_register_26 : decode cX3_register 26 = .ok (.aload_n 0, 1) := by decide +kernel
theorem dX3_register_27 : decode cX3_register 27 = .ok (.getfield 20, 3) := by decide +kernel
theorem dX3_register_30 : decode cX3_register 30 = .ok (.iload_n 1, 1) := by decide +kernel
theorem dX3_register_31 : decode cX3_register 31 = .ok (.aaload, 1) := by decide +kernel
theorem dX3_register_32 : decode cX3_register 32 = .ok (.getfield 100, 3) := by decide +kernel
theorem dX3_register_35 : decode cX3_register 35 = .ok (.ireturn, 1) := by decide +kernel
theorem dX3_register_36 : decode cX3_register 36 = .ok (.iload_n 2, 1) := by decide +kernel
theorem dX3_register_37 : decode cX3_register 37 = .ok (.bipush 9, 2) := by decide +kernel
theorem dX3_register_39 : decode cX3_register 39 = .ok (.if_icmp .ne 13, 3) := by decide +kernel
theorem dX3_register_42 : decode cX3_register 42 = .ok (.aload_n 0, 1) := by decide +kernel
theorem dX3_register_43 : decode cX3_register 43 = .ok (.getfield 20, 3) := by decide +kernel
theorem dX3_register_46 : decode cX3_register 46 = .ok (.iload_n 1, 1) := by decide +kernel
theorem dX3_register_47 : decode cX3_register 47 = .ok (.aaload, 1) := by decide +kernel
theorem dX3_register_48 : decode cX3_register 48 = .ok (.getfield 56, 3) := by decide +kernel
theorem dX3_register_51 : decode cX3_register 51 = .ok (.ireturn, 1) := by decide +kernel
theorem dX3_register_52 : decode cX3_register 52 = .ok (.aload_n 0, 1) := by decide +kernel
theorem dX3_register_53 : decode cX3_register 53 = .ok (.getfield 20, 3) := by decide +kernel
theorem dX3_register_56 : decode cX3_register 56 = .ok (.iload_n 1, 1) := by decide +kernel
theorem dX3_register_57 : decode cX3_register 57 = .ok (.aaload, 1) := by decide +kernel
theorem dX3_register_58 : decode cX3_register 58 = .ok (.getfield 103, 3) := by decide +kernel
theorem dX3_register_61 : decode cX3_register 61 = .ok (.iload_n 2, 1) := by decide +kernel
theorem dX3_register_62 : decode cX3_register 62 = .ok (.iaload, 1) := by decide +kernel
theorem dX3_register_63 : decode cX3_register 63 = .ok (.ireturn, 1) := by decide +kernel
theorem dX3_releaseFrom_0 : decode cX3_releaseFrom 0 = .ok (.iload_n 2, 1) := by decide +kernel
theorem dX3_releaseFrom_1 : decode cX3_releaseFrom 1 = .ok (.istore_n 3, 1) := by decide +kernel
theorem dX3_releaseFrom_2 : decode cX3_releaseFrom 2 = .ok (.iload_n 3, 1) := by decide +kernel
theorem dX3_releaseFrom_3 : decode cX3_releaseFrom 3 = .ok (.bipush 8, 2) := by decide +kernel
theorem dX3_releaseFrom_5 : decode cX3_releaseFrom 5 = .ok (.if_icmp .ge 29, 3) := by decide +kernel
theorem dX3_releaseFrom_8 : decode cX3_releaseFrom 8 = .ok (.aload_n 0, 1) := by decide +kernel
theorem dX3_releaseFrom_9 : decode cX3_releaseFrom 9 = .ok (.getfield 14, 3) := by decide +kernel
theorem dX3_releaseFrom_12 : decode cX3_releaseFrom 12 = .ok (.aload_n 1, 1) := by decide +kernel
theorem dX3_releaseFrom_13 : decode cX3_releaseFrom 13 = .ok (.getfield 112, 3) := by decide +kernel
theorem dX3_releaseFrom_16 : decode cX3_releaseFrom 16 = .ok (.iload_n 3, 1) := by decide +kernel
theorem dX3_releaseFrom_17 : decode cX3_releaseFrom 17 = .ok (.iaload, 1) := by decide +kernel
theorem dX3_releaseFrom_18 : decode cX3_releaseFrom 18 = .ok (.invokevirtual 191, 3) := by decide +kernel
theorem dX3_releaseFrom_21 : decode cX3_releaseFrom 21 = .ok (.aload_n 1, 1) := by decide +kernel
theorem dX3_releaseFrom_22 : decode cX3_releaseFrom 22 = .ok (.getfield 112, 3) := by decide +kernel
theorem dX3_releaseFrom_25 : decode cX3_releaseFrom 25 = .ok (.iload_n 3, 1) := by decide +kernel
theorem dX3_releaseFrom_26 : decode cX3_releaseFrom 26 = .ok (.iconst (-1), 1) := by decide +kernel
theorem dX3_releaseFrom_27 : decode cX3_releaseFrom 27 = .ok (.iastore, 1) := by decide +kernel
theorem dX3_releaseFrom_28 : decode cX3_releaseFrom 28 = .ok (.iinc 3 1, 3) := by decide +kernel
theorem dX3_releaseFrom_31 : decode cX3_releaseFrom 31 = .ok (.goto (-29), 3) := by decide +kernel
theorem dX3_releaseFrom_34 : decode cX3_releaseFrom 34 = .ok (.return_, 1) := by decide +kernel
theorem dX3_rowGoesOn_0 : decode cX3_rowGoesOn 0 = .ok (.aload_n 0, 1) := by decide +kernel
theorem dX3_rowGoesOn_1 : decode cX3_rowGoesOn 1 = .ok (.getfield 40, 3) := by decide +kernel
theorem dX3_rowGoesOn_4 : decode cX3_rowGoesOn 4 = .ok (.iconst (-1), 1) := by decide +kernel
theorem dX3_rowGoesOn_5 : decode cX3_rowGoesOn 5 = .ok (.if_icmp .eq 34, 3) := by decide +kernel
theorem dX3_rowGoesOn_8 : decode cX3_rowGoesOn 8 = .ok (.aload_n 0, 1) := by decide +kernel
theorem dX3_rowGoesOn_9 : decode cX3_rowGoesOn 9 = .ok (.getfield 20, 3) := by decide +kernel
theorem dX3_rowGoesOn_12 : decode cX3_rowGoesOn 12 = .ok (.aload_n 0, 1) := by decide +kernel
theorem dX3_rowGoesOn_13 : decode cX3_rowGoesOn 13 = .ok (.getfield 40, 3) := by decide +kernel
theorem dX3_rowGoesOn_16 : decode cX3_rowGoesOn 16 = .ok (.aaload, 1) := by decide +kernel
theorem dX3_rowGoesOn_17 : decode cX3_rowGoesOn 17 = .ok (.getfield 90, 3) := by decide +kernel
theorem dX3_rowGoesOn_20 : decode cX3_rowGoesOn 20 = .ok (.iconst 1, 1) := by decide +kernel
theorem dX3_rowGoesOn_21 : decode cX3_rowGoesOn 21 = .ok (.if_icmp .ne 18, 3) := by decide +kernel
theorem dX3_rowGoesOn_24 : decode cX3_rowGoesOn 24 = .ok (.aload_n 0, 1) := by decide +kernel
theorem dX3_rowGoesOn_25 : decode cX3_rowGoesOn 25 = .ok (.getfield 43, 3) := by decide +kernel
theorem dX3_rowGoesOn_28 : decode cX3_rowGoesOn 28 = .ok (.aload_n 0, 1) := by decide +kernel
theorem dX3_rowGoesOn_29 : decode cX3_rowGoesOn 29 = .ok (.getfield 36, 3) := by decide +kernel
theorem dX3_rowGoesOn_32 : decode cX3_rowGoesOn 32 = .ok (.if_icmp .ge 7, 3) := by decide +kernel
theorem dX3_rowGoesOn_35 : decode cX3_rowGoesOn 35 = .ok (.iconst 1, 1) := by decide +kernel
theorem dX3_rowGoesOn_36 : decode cX3_rowGoesOn 36 = .ok (.goto 4, 3) := by decide +kernel
theorem dX3_rowGoesOn_39 : decode cX3_rowGoesOn 39 = .ok (.iconst 0, 1) := by decide +kernel
theorem dX3_rowGoesOn_40 : decode cX3_rowGoesOn 40 = .ok (.ireturn, 1) := by decide +kernel
theorem dX3_running_0 : decode cX3_running 0 = .ok (.aload_n 0, 1) := by decide +kernel
theorem dX3_running_1 : decode cX3_running 1 = .ok (.invokevirtual 96, 3) := by decide +kernel
theorem dX3_running_4 : decode cX3_running 4 = .ok (.ifCond .eq 10, 3) := by decide +kernel
theorem dX3_running_7 : decode cX3_running 7 = .ok (.aload_n 0, 1) := by decide +kernel
theorem dX3_running_8 : decode cX3_running 8 = .ok (.getfield 40, 3) := by decide +kernel
theorem dX3_running_11 : decode cX3_running 11 = .ok (.goto 4, 3) := by decide +kernel
theorem dX3_running_14 : decode cX3_running 14 = .ok (.iconst (-1), 1) := by decide +kernel
theorem dX3_running_15 : decode cX3_running 15 = .ok (.ireturn, 1) := by decide +kernel
theorem dX3_sharing_0 : decode cX3_sharing 0 = .ok (.aload_n 0, 1) := by decide +kernel
theorem dX3_sharing_1 : decode cX3_sharing 1 = .ok (.iload_n 1, 1) := by decide +kernel
theorem dX3_sharing_2 : decode cX3_sharing 2 = .ok (.invokevirtual 70, 3) := by decide +kernel
theorem dX3_sharing_5 : decode cX3_sharing 5 = .ok (.ifCond .eq 28, 3) := by decide +kernel
theorem dX3_sharing_8 : decode cX3_sharing 8 = .ok (.iload_n 2, 1) := by decide +kernel
theorem dX3_sharing_9 : decode cX3_sharing 9 = .ok (.ifCond .lt 24, 3) := by decide +kernel
theorem dX3_sharing_12 : decode cX3_sharing 12 = .ok (.iload_n 2, 1) := by decide +kernel
theorem dX3_sharing_13 : decode cX3_sharing 13 = .ok (.bipush 8, 2) := by decide +kernel
theorem dX3_sharing_15 : decode cX3_sharing 15 = .ok (.if_icmp .ge 18, 3) := by decide +kernel
theorem dX3_sharing_18 : decode cX3_sharing 18 = .ok (.aload_n 0, 1) := by decide +kernel
theorem dX3_sharing_19 : decode cX3_sharing 19 = .ok (.getfield 20, 3) := by decide +kernel
theorem dX3_sharing_22 : decode cX3_sharing 22 = .ok (.iload_n 1, 1) := by decide +kernel
theorem dX3_sharing_23 : decode cX3_sharing 23 = .ok (.aaload, 1) := by decide +kernel
theorem dX3_sharing_24 : decode cX3_sharing 24 = .ok (.getfield 112, 3) := by decide +kernel
theorem dX3_sharing_27 : decode cX3_sharing 27 = .ok (.iload_n 2, 1) := by decide +kernel
theorem dX3_sharing_28 : decode cX3_sharing 28 = .ok (.iaload, 1) := by decide +kernel
theorem dX3_sharing_29 : decode cX3_sharing 29 = .ok (.iconst (-1), 1) := by decide +kernel
theorem dX3_sharing_30 : decode cX3_sharing 30 = .ok (.if_icmp .ne 5, 3) := by decide +kernel
theorem dX3_sharing_33 : decode cX3_sharing 33 = .ok (.iconst 0, 1) := by decide +kernel
theorem dX3_sharing_34 : decode cX3_sharing 34 = .ok (.ireturn, 1) := by decide +kernel
theorem dX3_sharing_35 : decode cX3_sharing 35 = .ok (.aload_n 0, 1) := by decide +kernel
theorem dX3_sharing_36 : decode cX3_sharing 36 = .ok (.getfield 14, 3) := by decide +kernel
theorem dX3_sharing_39 : decode cX3_sharing 39 = .ok (.getfield 115, 3) := by decide +kernel
theorem dX3_sharing_42 : decode cX3_sharing 42 = .ok (.aload_n 0, 1) := by decide +kernel
theorem dX3_sharing_43 : decode cX3_sharing 43 = .ok (.getfield 20, 3) := by decide +kernel
theorem dX3_sharing_46 : decode cX3_sharing 46 = .ok (.iload_n 1, 1) := by decide +kernel
theorem dX3_sharing_47 : decode cX3_sharing 47 = .ok (.aaload, 1) := by decide +kernel
theorem dX3_sharing_48 : decode cX3_sharing 48 = .ok (.getfield 112, 3) := by decide +kernel
theorem dX3_sharing_51 : decode cX3_sharing 51 = .ok (.iload_n 2, 1) := by decide +kernel
theorem dX3_sharing_52 : decode cX3_sharing 52 = .ok (.iaload, 1) := by decide +kernel
theorem dX3_sharing_53 : decode cX3_sharing 53 = .ok (.iaload, 1) := by decide +kernel
theorem dX3_sharing_54 : decode cX3_sharing 54 = .ok (.ireturn, 1) := by decide +kernel
theorem dX3_stage_0 : decode cX3_stage 0 = .ok (.iload_n 1, 1) := by decide +kernel
theorem dX3_stage_1 : decode cX3_stage 1 = .ok (.ifCond .lt 9, 3) := by decide +kernel
theorem dX3_stage_4 : decode cX3_stage 4 = .ok (.iload_n 1, 1) := by decide +kernel
theorem dX3_stage_5 : decode cX3_stage 5 = .ok (.bipush 64, 2) := by decide +kernel
theorem dX3_stage_7 : decode cX3_stage 7 = .ok (.if_icmp .lt 5, 3) := by decide +kernel
theorem dX3_stage_10 : decode cX3_stage 10 = .ok (.iconst 0, 1) := by decide +kernel
theorem dX3_stage_11 : decode cX3_stage 11 = .ok (.ireturn, 1) := by decide +kernel
theorem dX3_stage_12 : decode cX3_stage 12 = .ok (.aload_n 0, 1) := by decide +kernel
theorem dX3_stage_13 : decode cX3_stage 13 = .ok (.getfield 32, 3) := by decide +kernel
theorem dX3_stage_16 : decode cX3_stage 16 = .ok (.iload_n 1, 1) := by decide +kernel
theorem dX3_stage_17 : decode cX3_stage 17 = .ok (.iload_n 2, 1) := by decide +kernel
theorem dX3_stage_18 : decode cX3_stage 18 = .ok (.iastore, 1) := by decide +kernel
theorem dX3_stage_19 : decode cX3_stage 19 = .ok (.iconst 1, 1) := by decide +kernel
theorem dX3_stage_20 : decode cX3_stage 20 = .ok (.ireturn, 1) := by decide +kernel
theorem dX3_state_0 : decode cX3_state 0 = .ok (.iload_n 1, 1) := by decide +kernel
theorem dX3_state_1 : decode cX3_state 1 = .ok (.invokestatic 87, 3) := by decide +kernel
theorem dX3_state_4 : decode cX3_state 4 = .ok (.ifCond .eq 15, 3) := by decide +kernel
theorem dX3_state_7 : decode cX3_state 7 = .ok (.aload_n 0, 1) := by decide +kernel
theorem dX3_state_8 : decode cX3_state 8 = .ok (.getfield 20, 3) := by decide +kernel
theorem dX3_state_11 : decode cX3_state 11 = .ok (.iload_n 1, 1) := by decide +kernel
theorem dX3_state_12 : decode cX3_state 12 = .ok (.aaload, 1) := by decide +kernel
theorem dX3_state_13 : decode cX3_state 13 = .ok (.getfield 90, 3) := by decide +kernel
theorem dX3_state_16 : decode cX3_state 16 = .ok (.goto 4, 3) := by decide +kernel
theorem dX3_state_19 : decode cX3_state 19 = .ok (.iconst (-1), 1) := by decide +kernel
theorem dX3_state_20 : decode cX3_state 20 = .ok (.ireturn, 1) := by decide +kernel
theorem dX3_step_0 : decode cX3_step 0 = .ok (.aload_n 0, 1) := by decide +kernel
theorem dX3_step_1 : decode cX3_step 1 = .ok (.invokevirtual 67, 3) := by decide +kernel
theorem dX3_step_4 : decode cX3_step 4 = .ok (.ireturn, 1) := by decide +kernel

/-! decode rows (written by program) -/
theorem dX3_fetchAndDo_0 : decode cX3_fetchAndDo 0 = .ok (.aload_n 0, 1) := by decide +kernel
theorem dX3_fetchAndDo_1 : decode cX3_fetchAndDo 1 = .ok (.getfield 20, 3) := by decide +kernel
theorem dX3_fetchAndDo_4 : decode cX3_fetchAndDo 4 = .ok (.iload_n 1, 1) := by decide +kernel
theorem dX3_fetchAndDo_5 : decode cX3_fetchAndDo 5 = .ok (.aaload, 1) := by decide +kernel
theorem dX3_fetchAndDo_6 : decode cX3_fetchAndDo 6 = .ok (.astore_n 2, 1) := by decide +kernel
theorem dX3_fetchAndDo_7 : decode cX3_fetchAndDo 7 = .ok (.aload_n 0, 1) := by decide +kernel
theorem dX3_fetchAndDo_8 : decode cX3_fetchAndDo 8 = .ok (.aload_n 2, 1) := by decide +kernel
theorem dX3_fetchAndDo_9 : decode cX3_fetchAndDo 9 = .ok (.aload_n 2, 1) := by decide +kernel
theorem dX3_fetchAndDo_10 : decode cX3_fetchAndDo 10 = .ok (.getfield 100, 3) := by decide +kernel
theorem dX3_fetchAndDo_13 : decode cX3_fetchAndDo 13 = .ok (.invokevirtual 134, 3) := by decide +kernel
theorem dX3_fetchAndDo_16 : decode cX3_fetchAndDo 16 = .ok (.istore_n 3, 1) := by decide +kernel
theorem dX3_fetchAndDo_17 : decode cX3_fetchAndDo 17 = .ok (.iload_n 3, 1) := by decide +kernel
theorem dX3_fetchAndDo_18 : decode cX3_fetchAndDo 18 = .ok (.ifCond .eq 10, 3) := by decide +kernel
theorem dX3_fetchAndDo_21 : decode cX3_fetchAndDo 21 = .ok (.aload_n 0, 1) := by decide +kernel
theorem dX3_fetchAndDo_22 : decode cX3_fetchAndDo 22 = .ok (.iload_n 1, 1) := by decide +kernel
theorem dX3_fetchAndDo_23 : decode cX3_fetchAndDo 23 = .ok (.iload_n 3, 1) := by decide +kernel
theorem dX3_fetchAndDo_24 : decode cX3_fetchAndDo 24 = .ok (.invokevirtual 74, 3) := by decide +kernel
theorem dX3_fetchAndDo_27 : decode cX3_fetchAndDo 27 = .ok (.ireturn, 1) := by decide +kernel
theorem dX3_fetchAndDo_28 : decode cX3_fetchAndDo 28 = .ok (.aload_n 0, 1) := by decide +kernel
theorem dX3_fetchAndDo_29 : decode cX3_fetchAndDo 29 = .ok (.aload_n 2, 1) := by decide +kernel
theorem dX3_fetchAndDo_30 : decode cX3_fetchAndDo 30 = .ok (.aload_n 2, 1) := by decide +kernel
theorem dX3_fetchAndDo_31 : decode cX3_fetchAndDo 31 = .ok (.getfield 100, 3) := by decide +kernel
theorem dX3_fetchAndDo_34 : decode cX3_fetchAndDo 34 = .ok (.invokevirtual 109, 3) := by decide +kernel
theorem dX3_fetchAndDo_37 : decode cX3_fetchAndDo 37 = .ok (.istore 4, 2) := by decide +kernel
theorem dX3_fetchAndDo_39 : decode cX3_fetchAndDo 39 = .ok (.aload_n 2, 1) := by decide +kernel
theorem dX3_fetchAndDo_40 : decode cX3_fetchAndDo 40 = .ok (.dup, 1) := by decide +kernel
theorem dX3_fetchAndDo_41 : decode cX3_fetchAndDo 41 = .ok (.getfield 100, 3) := by decide +kernel
theorem dX3_fetchAndDo_44 : decode cX3_fetchAndDo 44 = .ok (.iconst 1, 1) := by decide +kernel
theorem dX3_fetchAndDo_45 : decode cX3_fetchAndDo 45 = .ok (.iadd, 1) := by decide +kernel
theorem dX3_fetchAndDo_46 : decode cX3_fetchAndDo 46 = .ok (.putfield 100, 3) := by decide +kernel
theorem dX3_fetchAndDo_49 : decode cX3_fetchAndDo 49 = .ok (.iload 4, 2) := by decide +kernel
theorem dX3_fetchAndDo_51 : decode cX3_fetchAndDo 51 = .ok (.bipush 15, 2) := by decide +kernel
theorem dX3_fetchAndDo_53 : decode cX3_fetchAndDo 53 = .ok (.iand, 1) := by decide +kernel
theorem dX3_fetchAndDo_54 : decode cX3_fetchAndDo 54 = .ok (.istore 5, 2) := by decide +kernel
theorem dX3_fetchAndDo_56 : decode cX3_fetchAndDo 56 = .ok (.iload 4, 2) := by decide +kernel
theorem dX3_fetchAndDo_58 : decode cX3_fetchAndDo 58 = .ok (.iconst 4, 1) := by decide +kernel
theorem dX3_fetchAndDo_59 : decode cX3_fetchAndDo 59 = .ok (.ishr, 1) := by decide +kernel
theorem dX3_fetchAndDo_60 : decode cX3_fetchAndDo 60 = .ok (.bipush 7, 2) := by decide +kernel
theorem dX3_fetchAndDo_62 : decode cX3_fetchAndDo 62 = .ok (.iand, 1) := by decide +kernel
theorem dX3_fetchAndDo_63 : decode cX3_fetchAndDo 63 = .ok (.istore 6, 2) := by decide +kernel
theorem dX3_fetchAndDo_65 : decode cX3_fetchAndDo 65 = .ok (.iload 4, 2) := by decide +kernel
theorem dX3_fetchAndDo_67 : decode cX3_fetchAndDo 67 = .ok (.bipush 7, 2) := by decide +kernel
theorem dX3_fetchAndDo_69 : decode cX3_fetchAndDo 69 = .ok (.ishr, 1) := by decide +kernel
theorem dX3_fetchAndDo_70 : decode cX3_fetchAndDo 70 = .ok (.bipush 7, 2) := by decide +kernel
theorem dX3_fetchAndDo_72 : decode cX3_fetchAndDo 72 = .ok (.iand, 1) := by decide +kernel
theorem dX3_fetchAndDo_73 : decode cX3_fetchAndDo 73 = .ok (.istore 7, 2) := by decide +kernel
theorem dX3_fetchAndDo_75 : decode cX3_fetchAndDo 75 = .ok (.iload 4, 2) := by decide +kernel
theorem dX3_fetchAndDo_77 : decode cX3_fetchAndDo 77 = .ok (.bipush 10, 2) := by decide +kernel
theorem dX3_fetchAndDo_79 : decode cX3_fetchAndDo 79 = .ok (.ishr, 1) := by decide +kernel
theorem dX3_fetchAndDo_80 : decode cX3_fetchAndDo 80 = .ok (.istore 8, 2) := by decide +kernel
theorem dX3_fetchAndDo_82 : decode cX3_fetchAndDo 82 = .ok (.iload 5, 2) := by decide +kernel
theorem dX3_fetchAndDo_84 : decode cX3_fetchAndDo 84 = .ok (.bipush 8, 2) := by decide +kernel
theorem dX3_fetchAndDo_86 : decode cX3_fetchAndDo 86 = .ok (.if_icmp .ge 19, 3) := by decide +kernel
theorem dX3_fetchAndDo_89 : decode cX3_fetchAndDo 89 = .ok (.aload_n 0, 1) := by decide +kernel
theorem dX3_fetchAndDo_90 : decode cX3_fetchAndDo 90 = .ok (.iload_n 1, 1) := by decide +kernel
theorem dX3_fetchAndDo_91 : decode cX3_fetchAndDo 91 = .ok (.iload 5, 2) := by decide +kernel
theorem dX3_fetchAndDo_93 : decode cX3_fetchAndDo 93 = .ok (.iload 6, 2) := by decide +kernel
theorem dX3_fetchAndDo_95 : decode cX3_fetchAndDo 95 = .ok (.iload 7, 2) := by decide +kernel
theorem dX3_fetchAndDo_97 : decode cX3_fetchAndDo 97 = .ok (.iload 8, 2) := by decide +kernel
theorem dX3_fetchAndDo_99 : decode cX3_fetchAndDo 99 = .ok (.invokevirtual 137, 3) := by decide +kernel
theorem dX3_fetchAndDo_102 : decode cX3_fetchAndDo 102 = .ok (.goto 14, 3) := by decide +kernel
theorem dX3_fetchAndDo_105 : decode cX3_fetchAndDo 105 = .ok (.aload_n 0, 1) := by decide +kernel
theorem dX3_fetchAndDo_106 : decode cX3_fetchAndDo 106 = .ok (.iload_n 1, 1) := by decide +kernel
theorem dX3_fetchAndDo_107 : decode cX3_fetchAndDo 107 = .ok (.iload 5, 2) := by decide +kernel
theorem dX3_fetchAndDo_109 : decode cX3_fetchAndDo 109 = .ok (.iload 6, 2) := by decide +kernel
theorem dX3_fetchAndDo_111 : decode cX3_fetchAndDo 111 = .ok (.iload 8, 2) := by decide +kernel
theorem dX3_fetchAndDo_113 : decode cX3_fetchAndDo 113 = .ok (.invokevirtual 141, 3) := by decide +kernel
theorem dX3_fetchAndDo_116 : decode cX3_fetchAndDo 116 = .ok (.ireturn, 1) := by decide +kernel
theorem dX3_firstFree_0 : decode cX3_firstFree 0 = .ok (.iconst 0, 1) := by decide +kernel
theorem dX3_firstFree_1 : decode cX3_firstFree 1 = .ok (.istore_n 1, 1) := by decide +kernel
theorem dX3_firstFree_2 : decode cX3_firstFree 2 = .ok (.iload_n 1, 1) := by decide +kernel
theorem dX3_firstFree_3 : decode cX3_firstFree 3 = .ok (.bipush 8, 2) := by decide +kernel
theorem dX3_firstFree_5 : decode cX3_firstFree 5 = .ok (.if_icmp .ge 23, 3) := by decide +kernel
theorem dX3_firstFree_8 : decode cX3_firstFree 8 = .ok (.aload_n 0, 1) := by decide +kernel
theorem dX3_firstFree_9 : decode cX3_firstFree 9 = .ok (.getfield 20, 3) := by decide +kernel
theorem dX3_firstFree_12 : decode cX3_firstFree 12 = .ok (.iload_n 1, 1) := by decide +kernel
theorem dX3_firstFree_13 : decode cX3_firstFree 13 = .ok (.aaload, 1) := by decide +kernel
theorem dX3_firstFree_14 : decode cX3_firstFree 14 = .ok (.getfield 90, 3) := by decide +kernel
theorem dX3_firstFree_17 : decode cX3_firstFree 17 = .ok (.ifCond .ne 5, 3) := by decide +kernel
theorem dX3_firstFree_20 : decode cX3_firstFree 20 = .ok (.iload_n 1, 1) := by decide +kernel
theorem dX3_firstFree_21 : decode cX3_firstFree 21 = .ok (.ireturn, 1) := by decide +kernel
theorem dX3_firstFree_22 : decode cX3_firstFree 22 = .ok (.iinc 1 1, 3) := by decide +kernel
theorem dX3_firstFree_25 : decode cX3_firstFree 25 = .ok (.goto (-23), 3) := by decide +kernel
theorem dX3_firstFree_28 : decode cX3_firstFree 28 = .ok (.iconst (-1), 1) := by decide +kernel
theorem dX3_firstFree_29 : decode cX3_firstFree 29 = .ok (.ireturn, 1) := by decide +kernel
theorem dX3_firstZombieChild_0 : decode cX3_firstZombieChild 0 = .ok (.iconst 0, 1) := by decide +kernel
theorem dX3_firstZombieChild_1 : decode cX3_firstZombieChild 1 = .ok (.istore_n 2, 1) := by decide +kernel
theorem dX3_firstZombieChild_2 : decode cX3_firstZombieChild 2 = .ok (.iload_n 2, 1) := by decide +kernel
theorem dX3_firstZombieChild_3 : decode cX3_firstZombieChild 3 = .ok (.bipush 8, 2) := by decide +kernel
theorem dX3_firstZombieChild_5 : decode cX3_firstZombieChild 5 = .ok (.if_icmp .ge 37, 3) := by decide +kernel
theorem dX3_firstZombieChild_8 : decode cX3_firstZombieChild 8 = .ok (.aload_n 0, 1) := by decide +kernel
theorem dX3_firstZombieChild_9 : decode cX3_firstZombieChild 9 = .ok (.getfield 20, 3) := by decide +kernel
theorem dX3_firstZombieChild_12 : decode cX3_firstZombieChild 12 = .ok (.iload_n 2, 1) := by decide +kernel
theorem dX3_firstZombieChild_13 : decode cX3_firstZombieChild 13 = .ok (.aaload, 1) := by decide +kernel
theorem dX3_firstZombieChild_14 : decode cX3_firstZombieChild 14 = .ok (.getfield 81, 3) := by decide +kernel
theorem dX3_firstZombieChild_17 : decode cX3_firstZombieChild 17 = .ok (.iload_n 1, 1) := by decide +kernel
theorem dX3_firstZombieChild_18 : decode cX3_firstZombieChild 18 = .ok (.if_icmp .ne 18, 3) := by decide +kernel
theorem dX3_firstZombieChild_21 : decode cX3_firstZombieChild 21 = .ok (.aload_n 0, 1) := by decide +kernel
theorem dX3_firstZombieChild_22 : decode cX3_firstZombieChild 22 = .ok (.getfield 20, 3) := by decide +kernel
theorem dX3_firstZombieChild_25 : decode cX3_firstZombieChild 25 = .ok (.iload_n 2, 1) := by decide +kernel
theorem dX3_firstZombieChild_26 : decode cX3_firstZombieChild 26 = .ok (.aaload, 1) := by decide +kernel
theorem dX3_firstZombieChild_27 : decode cX3_firstZombieChild 27 = .ok (.getfield 90, 3) := by decide +kernel
theorem dX3_firstZombieChild_30 : decode cX3_firstZombieChild 30 = .ok (.iconst 3, 1) := by decide +kernel
theorem dX3_firstZombieChild_31 : decode cX3_firstZombieChild 31 = .ok (.if_icmp .ne 5, 3) := by decide +kernel
theorem dX3_firstZombieChild_34 : decode cX3_firstZombieChild 34 = .ok (.iload_n 2, 1) := by decide +kernel
theorem dX3_firstZombieChild_35 : decode cX3_firstZombieChild 35 = .ok (.ireturn, 1) := by decide +kernel
theorem dX3_firstZombieChild_36 : decode cX3_firstZombieChild 36 = .ok (.iinc 2 1, 3) := by decide +kernel
theorem dX3_firstZombieChild_39 : decode cX3_firstZombieChild 39 = .ok (.goto (-37), 3) := by decide +kernel
theorem dX3_firstZombieChild_42 : decode cX3_firstZombieChild 42 = .ok (.iconst (-1), 1) := by decide +kernel
theorem dX3_firstZombieChild_43 : decode cX3_firstZombieChild 43 = .ok (.ireturn, 1) := by decide +kernel
theorem dX3_fork_0 : decode cX3_fork 0 = .ok (.aload_n 0, 1) := by decide +kernel
theorem dX3_fork_1 : decode cX3_fork 1 = .ok (.getfield 20, 3) := by decide +kernel
theorem dX3_fork_4 : decode cX3_fork 4 = .ok (.iload_n 1, 1) := by decide +kernel
theorem dX3_fork_5 : decode cX3_fork 5 = .ok (.aaload, 1) := by decide +kernel
theorem dX3_fork_6 : decode cX3_fork 6 = .ok (.astore_n 3, 1) := by decide +kernel
theorem dX3_fork_7 : decode cX3_fork 7 = .ok (.aload_n 0, 1) := by decide +kernel
theorem dX3_fork_8 : decode cX3_fork 8 = .ok (.invokevirtual 46, 3) := by decide +kernel
theorem dX3_fork_11 : decode cX3_fork 11 = .ok (.istore 4, 2) := by decide +kernel
theorem dX3_fork_13 : decode cX3_fork 13 = .ok (.iload 4, 2) := by decide +kernel
theorem dX3_fork_15 : decode cX3_fork 15 = .ok (.iconst (-1), 1) := by decide +kernel
theorem dX3_fork_16 : decode cX3_fork 16 = .ok (.if_icmp .ne 12, 3) := by decide +kernel
theorem dX3_fork_19 : decode cX3_fork 19 = .ok (.aload_n 3, 1) := by decide +kernel
theorem dX3_fork_20 : decode cX3_fork 20 = .ok (.getfield 103, 3) := by decide +kernel
theorem dX3_fork_23 : decode cX3_fork 23 = .ok (.iload_n 2, 1) := by decide +kernel
theorem dX3_fork_24 : decode cX3_fork 24 = .ok (.iconst (-1), 1) := by decide +kernel
theorem dX3_fork_25 : decode cX3_fork 25 = .ok (.iastore, 1) := by decide +kernel
theorem dX3_fork_26 : decode cX3_fork 26 = .ok (.iconst 1, 1) := by decide +kernel
theorem dX3_fork_27 : decode cX3_fork 27 = .ok (.ireturn, 1) := by decide +kernel
theorem dX3_fork_28 : decode cX3_fork 28 = .ok (.aload_n 0, 1) := by decide +kernel
theorem dX3_fork_29 : decode cX3_fork 29 = .ok (.getfield 20, 3) := by decide +kernel
theorem dX3_fork_32 : decode cX3_fork 32 = .ok (.iload 4, 2) := by decide +kernel
theorem dX3_fork_34 : decode cX3_fork 34 = .ok (.aaload, 1) := by decide +kernel
theorem dX3_fork_35 : decode cX3_fork 35 = .ok (.astore 5, 2) := by decide +kernel
theorem dX3_fork_37 : decode cX3_fork 37 = .ok (.aload 5, 2) := by decide +kernel
theorem dX3_fork_39 : decode cX3_fork 39 = .ok (.iload_n 1, 1) := by decide +kernel
theorem dX3_fork_40 : decode cX3_fork 40 = .ok (.invokevirtual 53, 3) := by decide +kernel
theorem dX3_fork_43 : decode cX3_fork 43 = .ok (.aload 5, 2) := by decide +kernel
theorem dX3_fork_45 : decode cX3_fork 45 = .ok (.aload_n 3, 1) := by decide +kernel
theorem dX3_fork_46 : decode cX3_fork 46 = .ok (.getfield 100, 3) := by decide +kernel
theorem dX3_fork_49 : decode cX3_fork 49 = .ok (.putfield 100, 3) := by decide +kernel
theorem dX3_fork_52 : decode cX3_fork 52 = .ok (.aload 5, 2) := by decide +kernel
theorem dX3_fork_54 : decode cX3_fork 54 = .ok (.aload_n 3, 1) := by decide +kernel
theorem dX3_fork_55 : decode cX3_fork 55 = .ok (.getfield 56, 3) := by decide +kernel
theorem dX3_fork_58 : decode cX3_fork 58 = .ok (.putfield 56, 3) := by decide +kernel
theorem dX3_fork_61 : decode cX3_fork 61 = .ok (.iconst 0, 1) := by decide +kernel
theorem dX3_fork_62 : decode cX3_fork 62 = .ok (.istore 6, 2) := by decide +kernel
theorem dX3_fork_64 : decode cX3_fork 64 = .ok (.iload 6, 2) := by decide +kernel
theorem dX3_fork_66 : decode cX3_fork 66 = .ok (.bipush 8, 2) := by decide +kernel
theorem dX3_fork_68 : decode cX3_fork 68 = .ok (.if_icmp .ge 24, 3) := by decide +kernel
theorem dX3_fork_71 : decode cX3_fork 71 = .ok (.aload 5, 2) := by decide +kernel
theorem dX3_fork_73 : decode cX3_fork 73 = .ok (.getfield 103, 3) := by decide +kernel
theorem dX3_fork_76 : decode cX3_fork 76 = .ok (.iload 6, 2) := by decide +kernel
theorem dX3_fork_78 : decode cX3_fork 78 = .ok (.aload_n 3, 1) := by decide +kernel
theorem dX3_fork_79 : decode cX3_fork 79 = .ok (.getfield 103, 3) := by decide +kernel
theorem dX3_fork_82 : decode cX3_fork 82 = .ok (.iload 6, 2) := by decide +kernel
theorem dX3_fork_84 : decode cX3_fork 84 = .ok (.iaload, 1) := by decide +kernel
theorem dX3_fork_85 : decode cX3_fork 85 = .ok (.iastore, 1) := by decide +kernel
theorem dX3_fork_86 : decode cX3_fork 86 = .ok (.iinc 6 1, 3) := by decide +kernel
theorem dX3_fork_89 : decode cX3_fork 89 = .ok (.goto (-25), 3) := by decide +kernel
theorem dX3_fork_92 : decode cX3_fork 92 = .ok (.aload 5, 2) := by decide +kernel
theorem dX3_fork_94 : decode cX3_fork 94 = .ok (.getfield 103, 3) := by decide +kernel
theorem dX3_fork_97 : decode cX3_fork 97 = .ok (.iload_n 2, 1) := by decide +kernel
theorem dX3_fork_98 : decode cX3_fork 98 = .ok (.iconst 0, 1) := by decide +kernel
theorem dX3_fork_99 : decode cX3_fork 99 = .ok (.iastore, 1) := by decide +kernel
theorem dX3_fork_100 : decode cX3_fork 100 = .ok (.iconst 0, 1) := by decide +kernel
theorem dX3_fork_101 : decode cX3_fork 101 = .ok (.istore 6, 2) := by decide +kernel
theorem dX3_fork_103 : decode cX3_fork 103 = .ok (.iload 6, 2) := by decide +kernel
theorem dX3_fork_105 : decode cX3_fork 105 = .ok (.bipush 8, 2) := by decide +kernel
theorem dX3_fork_107 : decode cX3_fork 107 = .ok (.if_icmp .ge 39, 3) := by decide +kernel
theorem dX3_fork_110 : decode cX3_fork 110 = .ok (.aload 5, 2) := by decide +kernel
theorem dX3_fork_112 : decode cX3_fork 112 = .ok (.getfield 112, 3) := by decide +kernel
theorem dX3_fork_115 : decode cX3_fork 115 = .ok (.iload 6, 2) := by decide +kernel
theorem dX3_fork_117 : decode cX3_fork 117 = .ok (.aload_n 3, 1) := by decide +kernel
theorem dX3_fork_118 : decode cX3_fork 118 = .ok (.getfield 112, 3) := by decide +kernel
theorem dX3_fork_121 : decode cX3_fork 121 = .ok (.iload 6, 2) := by decide +kernel
theorem dX3_fork_123 : decode cX3_fork 123 = .ok (.iaload, 1) := by decide +kernel
theorem dX3_fork_124 : decode cX3_fork 124 = .ok (.iastore, 1) := by decide +kernel
theorem dX3_fork_125 : decode cX3_fork 125 = .ok (.aload_n 0, 1) := by decide +kernel
theorem dX3_fork_126 : decode cX3_fork 126 = .ok (.getfield 14, 3) := by decide +kernel
theorem dX3_fork_129 : decode cX3_fork 129 = .ok (.aload 5, 2) := by decide +kernel
theorem dX3_fork_131 : decode cX3_fork 131 = .ok (.getfield 112, 3) := by decide +kernel
theorem dX3_fork_134 : decode cX3_fork 134 = .ok (.iload 6, 2) := by decide +kernel
theorem dX3_fork_136 : decode cX3_fork 136 = .ok (.iaload, 1) := by decide +kernel
theorem dX3_fork_137 : decode cX3_fork 137 = .ok (.invokevirtual 168, 3) := by decide +kernel
theorem dX3_fork_140 : decode cX3_fork 140 = .ok (.iinc 6 1, 3) := by decide +kernel
theorem dX3_fork_143 : decode cX3_fork 143 = .ok (.goto (-40), 3) := by decide +kernel
theorem dX3_fork_146 : decode cX3_fork 146 = .ok (.aload_n 3, 1) := by decide +kernel
theorem dX3_fork_147 : decode cX3_fork 147 = .ok (.getfield 103, 3) := by decide +kernel
theorem dX3_fork_150 : decode cX3_fork 150 = .ok (.iload_n 2, 1) := by decide +kernel
theorem dX3_fork_151 : decode cX3_fork 151 = .ok (.iload 4, 2) := by decide +kernel
theorem dX3_fork_153 : decode cX3_fork 153 = .ok (.iastore, 1) := by decide +kernel
theorem dX3_fork_154 : decode cX3_fork 154 = .ok (.iconst 3, 1) := by decide +kernel
theorem dX3_fork_155 : decode cX3_fork 155 = .ok (.ireturn, 1) := by decide +kernel
theorem dX3_frames_0 : decode cX3_frames 0 = .ok (.aload_n 0, 1) := by decide +kernel
theorem dX3_frames_1 : decode cX3_frames 1 = .ok (.getfield 14, 3) := by decide +kernel
theorem dX3_frames_4 : decode cX3_frames 4 = .ok (.getfield 118, 3) := by decide +kernel
theorem dX3_frames_7 : decode cX3_frames 7 = .ok (.ireturn, 1) := by decide +kernel
theorem dX3_hasChild_0 : decode cX3_hasChild 0 = .ok (.iconst 0, 1) := by decide +kernel
theorem dX3_hasChild_1 : decode cX3_hasChild 1 = .ok (.istore_n 2, 1) := by decide +kernel
theorem dX3_hasChild_2 : decode cX3_hasChild 2 = .ok (.iload_n 2, 1) := by decide +kernel
theorem dX3_hasChild_3 : decode cX3_hasChild 3 = .ok (.bipush 8, 2) := by decide +kernel
theorem dX3_hasChild_5 : decode cX3_hasChild 5 = .ok (.if_icmp .ge 24, 3) := by decide +kernel
theorem dX3_hasChild_8 : decode cX3_hasChild 8 = .ok (.aload_n 0, 1) := by decide +kernel
theorem dX3_hasChild_9 : decode cX3_hasChild 9 = .ok (.getfield 20, 3) := by decide +kernel
theorem dX3_hasChild_12 : decode cX3_hasChild 12 = .ok (.iload_n 2, 1) := by decide +kernel
theorem dX3_hasChild_13 : decode cX3_hasChild 13 = .ok (.aaload, 1) := by decide +kernel
theorem dX3_hasChild_14 : decode cX3_hasChild 14 = .ok (.getfield 81, 3) := by decide +kernel
theorem dX3_hasChild_17 : decode cX3_hasChild 17 = .ok (.iload_n 1, 1) := by decide +kernel
theorem dX3_hasChild_18 : decode cX3_hasChild 18 = .ok (.if_icmp .ne 5, 3) := by decide +kernel
theorem dX3_hasChild_21 : decode cX3_hasChild 21 = .ok (.iconst 1, 1) := by decide +kernel
theorem dX3_hasChild_22 : decode cX3_hasChild 22 = .ok (.ireturn, 1) := by decide +kernel
theorem dX3_hasChild_23 : decode cX3_hasChild 23 = .ok (.iinc 2 1, 3) := by decide +kernel
theorem dX3_hasChild_26 : decode cX3_hasChild 26 = .ok (.goto (-24), 3) := by decide +kernel
theorem dX3_hasChild_29 : decode cX3_hasChild 29 = .ok (.iconst 0, 1) := by decide +kernel
theorem dX3_hasChild_30 : decode cX3_hasChild 30 = .ok (.ireturn, 1) := by decide +kernel
theorem dX3_init_0 : decode cX3_init 0 = .ok (.aload_n 0, 1) := by decide +kernel
theorem dX3_init_1 : decode cX3_init 1 = .ok (.invokespecial 3, 3) := by decide +kernel
theorem dX3_init_4 : decode cX3_init 4 = .ok (.aload_n 0, 1) := by decide +kernel
theorem dX3_init_5 : decode cX3_init 5 = .ok (.new 9, 3) := by decide +kernel
theorem dX3_init_8 : decode cX3_init 8 = .ok (.dup, 1) := by decide +kernel
theorem dX3_init_9 : decode cX3_init 9 = .ok (.iload_n 1, 1) := by decide +kernel
theorem dX3_init_10 : decode cX3_init 10 = .ok (.iconst 2, 1) := by decide +kernel
theorem dX3_init_11 : decode cX3_init 11 = .ok (.if_icmp .lt 13, 3) := by decide +kernel
theorem dX3_init_14 : decode cX3_init 14 = .ok (.iload_n 1, 1) := by decide +kernel
theorem dX3_init_15 : decode cX3_init 15 = .ok (.bipush 32, 2) := by decide +kernel
theorem dX3_init_17 : decode cX3_init 17 = .ok (.if_icmp .gt 7, 3) := by decide +kernel
theorem dX3_init_20 : decode cX3_init 20 = .ok (.iload_n 1, 1) := by decide +kernel
theorem dX3_init_21 : decode cX3_init 21 = .ok (.goto 5, 3) := by decide +kernel
theorem dX3_init_24 : decode cX3_init 24 = .ok (.bipush 12, 2) := by decide +kernel
theorem dX3_init_26 : decode cX3_init 26 = .ok (.invokespecial 11, 3) := by decide +kernel
theorem dX3_init_29 : decode cX3_init 29 = .ok (.putfield 14, 3) := by decide +kernel
theorem dX3_init_32 : decode cX3_init 32 = .ok (.aload_n 0, 1) := by decide +kernel
theorem dX3_init_33 : decode cX3_init 33 = .ok (.bipush 8, 2) := by decide +kernel
theorem dX3_init_35 : decode cX3_init 35 = .ok (.anewarray 18, 3) := by decide +kernel
theorem dX3_init_38 : decode cX3_init 38 = .ok (.putfield 20, 3) := by decide +kernel
theorem dX3_init_41 : decode cX3_init 41 = .ok (.iconst 0, 1) := by decide +kernel
theorem dX3_init_42 : decode cX3_init 42 = .ok (.istore_n 3, 1) := by decide +kernel
theorem dX3_init_43 : decode cX3_init 43 = .ok (.iload_n 3, 1) := by decide +kernel
theorem dX3_init_44 : decode cX3_init 44 = .ok (.bipush 8, 2) := by decide +kernel
theorem dX3_init_46 : decode cX3_init 46 = .ok (.if_icmp .ge 22, 3) := by decide +kernel
theorem dX3_init_49 : decode cX3_init 49 = .ok (.aload_n 0, 1) := by decide +kernel
theorem dX3_init_50 : decode cX3_init 50 = .ok (.getfield 20, 3) := by decide +kernel
theorem dX3_init_53 : decode cX3_init 53 = .ok (.iload_n 3, 1) := by decide +kernel
theorem dX3_init_54 : decode cX3_init 54 = .ok (.new 18, 3) := by decide +kernel
theorem dX3_init_57 : decode cX3_init 57 = .ok (.dup, 1) := by decide +kernel
theorem dX3_init_58 : decode cX3_init 58 = .ok (.invokespecial 24, 3) := by decide +kernel
theorem dX3_init_61 : decode cX3_init 61 = .ok (.aastore, 1) := by decide +kernel
theorem dX3_init_62 : decode cX3_init 62 = .ok (.iinc 3 1, 3) := by decide +kernel
theorem dX3_init_65 : decode cX3_init 65 = .ok (.goto (-22), 3) := by decide +kernel
theorem dX3_init_68 : decode cX3_init 68 = .ok (.aload_n 0, 1) := by decide +kernel
theorem dX3_init_69 : decode cX3_init 69 = .ok (.new 25, 3) := by decide +kernel
theorem dX3_init_72 : decode cX3_init 72 = .ok (.dup, 1) := by decide +kernel
theorem dX3_init_73 : decode cX3_init 73 = .ok (.invokespecial 27, 3) := by decide +kernel
theorem dX3_init_76 : decode cX3_init 76 = .ok (.putfield 28, 3) := by decide +kernel
theorem dX3_init_79 : decode cX3_init 79 = .ok (.aload_n 0, 1) := by decide +kernel
theorem dX3_init_80 : decode cX3_init 80 = .ok (.bipush 64, 2) := by decide +kernel
theorem dX3_init_82 : decode cX3_init 82 = .ok (.newarray .int, 2) := by decide +kernel
theorem dX3_init_84 : decode cX3_init 84 = .ok (.putfield 32, 3) := by decide +kernel
theorem dX3_init_87 : decode cX3_init 87 = .ok (.aload_n 0, 1) := by decide +kernel
theorem dX3_init_88 : decode cX3_init 88 = .ok (.iload_n 2, 1) := by decide +kernel
theorem dX3_init_89 : decode cX3_init 89 = .ok (.iconst 1, 1) := by decide +kernel
theorem dX3_init_90 : decode cX3_init 90 = .ok (.if_icmp .lt 13, 3) := by decide +kernel
theorem dX3_init_93 : decode cX3_init 93 = .ok (.iload_n 2, 1) := by decide +kernel
theorem dX3_init_94 : decode cX3_init 94 = .ok (.bipush 20, 2) := by decide +kernel
theorem dX3_init_96 : decode cX3_init 96 = .ok (.if_icmp .gt 7, 3) := by decide +kernel
theorem dX3_init_99 : decode cX3_init 99 = .ok (.iload_n 2, 1) := by decide +kernel
theorem dX3_init_100 : decode cX3_init 100 = .ok (.goto 4, 3) := by decide +kernel
theorem dX3_init_103 : decode cX3_init 103 = .ok (.iconst 3, 1) := by decide +kernel
theorem dX3_init_104 : decode cX3_init 104 = .ok (.putfield 36, 3) := by decide +kernel
theorem dX3_init_107 : decode cX3_init 107 = .ok (.aload_n 0, 1) := by decide +kernel
theorem dX3_init_108 : decode cX3_init 108 = .ok (.iconst (-1), 1) := by decide +kernel
theorem dX3_init_109 : decode cX3_init 109 = .ok (.putfield 40, 3) := by decide +kernel
theorem dX3_init_112 : decode cX3_init 112 = .ok (.aload_n 0, 1) := by decide +kernel
theorem dX3_init_113 : decode cX3_init 113 = .ok (.iconst 0, 1) := by decide +kernel
theorem dX3_init_114 : decode cX3_init 114 = .ok (.putfield 43, 3) := by decide +kernel
theorem dX3_init_117 : decode cX3_init 117 = .ok (.return_, 1) := by decide +kernel
theorem dX3_isLive_0 : decode cX3_isLive 0 = .ok (.iload_n 1, 1) := by decide +kernel
theorem dX3_isLive_1 : decode cX3_isLive 1 = .ok (.invokestatic 87, 3) := by decide +kernel
theorem dX3_isLive_4 : decode cX3_isLive 4 = .ok (.ifCond .eq 33, 3) := by decide +kernel
theorem dX3_isLive_7 : decode cX3_isLive 7 = .ok (.aload_n 0, 1) := by decide +kernel
theorem dX3_isLive_8 : decode cX3_isLive 8 = .ok (.getfield 20, 3) := by decide +kernel
theorem dX3_isLive_11 : decode cX3_isLive 11 = .ok (.iload_n 1, 1) := by decide +kernel
theorem dX3_isLive_12 : decode cX3_isLive 12 = .ok (.aaload, 1) := by decide +kernel
theorem dX3_isLive_13 : decode cX3_isLive 13 = .ok (.getfield 90, 3) := by decide +kernel
theorem dX3_isLive_16 : decode cX3_isLive 16 = .ok (.iconst 1, 1) := by decide +kernel
theorem dX3_isLive_17 : decode cX3_isLive 17 = .ok (.if_icmp .eq 16, 3) := by decide +kernel
theorem dX3_isLive_20 : decode cX3_isLive 20 = .ok (.aload_n 0, 1) := by decide +kernel
theorem dX3_isLive_21 : decode cX3_isLive 21 = .ok (.getfield 20, 3) := by decide +kernel
theorem dX3_isLive_24 : decode cX3_isLive 24 = .ok (.iload_n 1, 1) := by decide +kernel
theorem dX3_isLive_25 : decode cX3_isLive 25 = .ok (.aaload, 1) := by decide +kernel
theorem dX3_isLive_26 : decode cX3_isLive 26 = .ok (.getfield 90, 3) := by decide +kernel
theorem dX3_isLive_29 : decode cX3_isLive 29 = .ok (.iconst 2, 1) := by decide +kernel
theorem dX3_isLive_30 : decode cX3_isLive 30 = .ok (.if_icmp .ne 7, 3) := by decide +kernel
theorem dX3_isLive_33 : decode cX3_isLive 33 = .ok (.iconst 1, 1) := by decide +kernel
theorem dX3_isLive_34 : decode cX3_isLive 34 = .ok (.goto 4, 3) := by decide +kernel
theorem dX3_isLive_37 : decode cX3_isLive 37 = .ok (.iconst 0, 1) := by decide +kernel
theorem dX3_isLive_38 : decode cX3_isLive 38 = .ok (.ireturn, 1) := by decide +kernel
theorem dX3_isNumber_0 : decode cX3_isNumber 0 = .ok (.iload_n 0, 1) := by decide +kernel
theorem dX3_isNumber_1 : decode cX3_isNumber 1 = .ok (.ifCond .lt 13, 3) := by decide +kernel
theorem dX3_isNumber_4 : decode cX3_isNumber 4 = .ok (.iload_n 0, 1) := by decide +kernel
theorem dX3_isNumber_5 : decode cX3_isNumber 5 = .ok (.bipush 8, 2) := by decide +kernel
theorem dX3_isNumber_7 : decode cX3_isNumber 7 = .ok (.if_icmp .ge 7, 3) := by decide +kernel
theorem dX3_isNumber_10 : decode cX3_isNumber 10 = .ok (.iconst 1, 1) := by decide +kernel
theorem dX3_isNumber_11 : decode cX3_isNumber 11 = .ok (.goto 4, 3) := by decide +kernel
theorem dX3_isNumber_14 : decode cX3_isNumber 14 = .ok (.iconst 0, 1) := by decide +kernel
theorem dX3_isNumber_15 : decode cX3_isNumber 15 = .ok (.ireturn, 1) := by decide +kernel
theorem dX3_isZombie_0 : decode cX3_isZombie 0 = .ok (.iload_n 1, 1) := by decide +kernel
theorem dX3_isZombie_1 : decode cX3_isZombie 1 = .ok (.invokestatic 87, 3) := by decide +kernel
theorem dX3_isZombie_4 : decode cX3_isZombie 4 = .ok (.ifCond .eq 20, 3) := by decide +kernel
theorem dX3_isZombie_7 : decode cX3_isZombie 7 = .ok (.aload_n 0, 1) := by decide +kernel
theorem dX3_isZombie_8 : decode cX3_isZombie 8 = .ok (.getfield 20, 3) := by decide +kernel
theorem dX3_isZombie_11 : decode cX3_isZombie 11 = .ok (.iload_n 1, 1) := by decide +kernel
theorem dX3_isZombie_12 : decode cX3_isZombie 12 = .ok (.aaload, 1) := by decide +kernel
theorem dX3_isZombie_13 : decode cX3_isZombie 13 = .ok (.getfield 90, 3) := by decide +kernel
theorem dX3_isZombie_16 : decode cX3_isZombie 16 = .ok (.iconst 3, 1) := by decide +kernel
theorem dX3_isZombie_17 : decode cX3_isZombie 17 = .ok (.if_icmp .ne 7, 3) := by decide +kernel
theorem dX3_isZombie_20 : decode cX3_isZombie 20 = .ok (.iconst 1, 1) := by decide +kernel
theorem dX3_isZombie_21 : decode cX3_isZombie 21 = .ok (.goto 4, 3) := by decide +kernel
theorem dX3_isZombie_24 : decode cX3_isZombie 24 = .ok (.iconst 0, 1) := by decide +kernel
theorem dX3_isZombie_25 : decode cX3_isZombie 25 = .ok (.ireturn, 1) := by decide +kernel
theorem dX3_jumpIf_0 : decode cX3_jumpIf 0 = .ok (.iload_n 1, 1) := by decide +kernel
theorem dX3_jumpIf_1 : decode cX3_jumpIf 1 = .ok (.ifCond .eq 8, 3) := by decide +kernel
theorem dX3_jumpIf_4 : decode cX3_jumpIf 4 = .ok (.aload_n 0, 1) := by decide +kernel
theorem dX3_jumpIf_5 : decode cX3_jumpIf 5 = .ok (.iload_n 2, 1) := by decide +kernel
theorem dX3_jumpIf_6 : decode cX3_jumpIf 6 = .ok (.putfield 100, 3) := by decide +kernel
theorem dX3_jumpIf_9 : decode cX3_jumpIf 9 = .ok (.iconst 1, 1) := by decide +kernel
theorem dX3_jumpIf_10 : decode cX3_jumpIf 10 = .ok (.ireturn, 1) := by decide +kernel
theorem dX3_kill_0 : decode cX3_kill 0 = .ok (.aload_n 0, 1) := by decide +kernel
theorem dX3_kill_1 : decode cX3_kill 1 = .ok (.iload_n 1, 1) := by decide +kernel
theorem dX3_kill_2 : decode cX3_kill 2 = .ok (.invokevirtual 70, 3) := by decide +kernel
theorem dX3_kill_5 : decode cX3_kill 5 = .ok (.ifCond .ne 5, 3) := by decide +kernel
theorem dX3_kill_8 : decode cX3_kill 8 = .ok (.iconst 0, 1) := by decide +kernel
theorem dX3_kill_9 : decode cX3_kill 9 = .ok (.ireturn, 1) := by decide +kernel
theorem dX3_kill_10 : decode cX3_kill 10 = .ok (.aload_n 0, 1) := by decide +kernel
theorem dX3_kill_11 : decode cX3_kill 11 = .ok (.iload_n 1, 1) := by decide +kernel
theorem dX3_kill_12 : decode cX3_kill 12 = .ok (.bipush (-14), 2) := by decide +kernel
theorem dX3_kill_14 : decode cX3_kill 14 = .ok (.invokevirtual 74, 3) := by decide +kernel
theorem dX3_kill_17 : decode cX3_kill 17 = .ok (.pop, 1) := by decide +kernel
theorem dX3_kill_18 : decode cX3_kill 18 = .ok (.iconst 1, 1) := by decide +kernel
theorem dX3_kill_19 : decode cX3_kill 19 = .ok (.ireturn, 1) := by decide +kernel
theorem dX3_load_0 : decode cX3_load 0 = .ok (.iload_n 1, 1) := by decide +kernel
theorem dX3_load_1 : decode cX3_load 1 = .ok (.iconst 1, 1) := by decide +kernel
theorem dX3_load_2 : decode cX3_load 2 = .ok (.if_icmp .lt 9, 3) := by decide +kernel
theorem dX3_load_5 : decode cX3_load 5 = .ok (.iload_n 1, 1) := by decide +kernel
theorem dX3_load_6 : decode cX3_load 6 = .ok (.bipush 64, 2) := by decide +kernel
theorem dX3_load_8 : decode cX3_load 8 = .ok (.if_icmp .le 6, 3) := by decide +kernel
theorem dX3_load_11 : decode cX3_load 11 = .ok (.bipush (-16), 2) := by decide +kernel
theorem dX3_load_13 : decode cX3_load 13 = .ok (.ireturn, 1) := by decide +kernel
theorem dX3_load_14 : decode cX3_load 14 = .ok (.aload_n 0, 1) := by decide +kernel
theorem dX3_load_15 : decode cX3_load 15 = .ok (.invokevirtual 46, 3) := by decide +kernel
theorem dX3_load_18 : decode cX3_load 18 = .ok (.istore_n 2, 1) := by decide +kernel
theorem dX3_load_19 : decode cX3_load 19 = .ok (.iload_n 2, 1) := by decide +kernel
theorem dX3_load_20 : decode cX3_load 20 = .ok (.iconst (-1), 1) := by decide +kernel
theorem dX3_load_21 : decode cX3_load 21 = .ok (.if_icmp .ne 6, 3) := by decide +kernel
theorem dX3_load_24 : decode cX3_load 24 = .ok (.bipush (-15), 2) := by decide +kernel
theorem dX3_load_26 : decode cX3_load 26 = .ok (.ireturn, 1) := by decide +kernel
theorem dX3_load_27 : decode cX3_load 27 = .ok (.iload_n 1, 1) := by decide +kernel
theorem dX3_load_28 : decode cX3_load 28 = .ok (.bipush 8, 2) := by decide +kernel
theorem dX3_load_30 : decode cX3_load 30 = .ok (.iadd, 1) := by decide +kernel
theorem dX3_load_31 : decode cX3_load 31 = .ok (.iconst 1, 1) := by decide +kernel
theorem dX3_load_32 : decode cX3_load 32 = .ok (.isub, 1) := by decide +kernel
theorem dX3_load_33 : decode cX3_load 33 = .ok (.bipush 8, 2) := by decide +kernel
theorem dX3_load_35 : decode cX3_load 35 = .ok (.idiv, 1) := by decide +kernel
theorem dX3_load_36 : decode cX3_load 36 = .ok (.istore_n 3, 1) := by decide +kernel
theorem dX3_load_37 : decode cX3_load 37 = .ok (.iload_n 3, 1) := by decide +kernel
theorem dX3_load_38 : decode cX3_load 38 = .ok (.aload_n 0, 1) := by decide +kernel
theorem dX3_load_39 : decode cX3_load 39 = .ok (.getfield 14, 3) := by decide +kernel
theorem dX3_load_42 : decode cX3_load 42 = .ok (.invokevirtual 50, 3) := by decide +kernel
theorem dX3_load_45 : decode cX3_load 45 = .ok (.if_icmp .le 6, 3) := by decide +kernel
theorem dX3_load_48 : decode cX3_load 48 = .ok (.bipush (-13), 2) := by decide +kernel
theorem dX3_load_50 : decode cX3_load 50 = .ok (.ireturn, 1) := by decide +kernel
theorem dX3_load_51 : decode cX3_load 51 = .ok (.aload_n 0, 1) := by decide +kernel
theorem dX3_load_52 : decode cX3_load 52 = .ok (.getfield 20, 3) := by decide +kernel
theorem dX3_load_55 : decode cX3_load 55 = .ok (.iload_n 2, 1) := by decide +kernel
theorem dX3_load_56 : decode cX3_load 56 = .ok (.aaload, 1) := by decide +kernel
theorem dX3_load_57 : decode cX3_load 57 = .ok (.astore 4, 2) := by decide +kernel
theorem dX3_load_59 : decode cX3_load 59 = .ok (.aload 4, 2) := by decide +kernel
theorem dX3_load_61 : decode cX3_load 61 = .ok (.iconst (-1), 1) := by decide +kernel
theorem dX3_load_62 : decode cX3_load 62 = .ok (.invokevirtual 53, 3) := by decide +kernel
theorem dX3_load_65 : decode cX3_load 65 = .ok (.aload 4, 2) := by decide +kernel
theorem dX3_load_67 : decode cX3_load 67 = .ok (.iload_n 1, 1) := by decide +kernel
theorem dX3_load_68 : decode cX3_load 68 = .ok (.putfield 56, 3) := by decide +kernel
theorem dX3_load_71 : decode cX3_load 71 = .ok (.iconst 0, 1) := by decide +kernel
theorem dX3_load_72 : decode cX3_load 72 = .ok (.istore 5, 2) := by decide +kernel
theorem dX3_load_74 : decode cX3_load 74 = .ok (.iload 5, 2) := by decide +kernel
theorem dX3_load_76 : decode cX3_load 76 = .ok (.iload_n 1, 1) := by decide +kernel
theorem dX3_load_77 : decode cX3_load 77 = .ok (.if_icmp .ge 38, 3) := by decide +kernel
theorem dX3_load_80 : decode cX3_load 80 = .ok (.aload_n 0, 1) := by decide +kernel
theorem dX3_load_81 : decode cX3_load 81 = .ok (.aload 4, 2) := by decide +kernel
theorem dX3_load_83 : decode cX3_load 83 = .ok (.iload 5, 2) := by decide +kernel
theorem dX3_load_85 : decode cX3_load 85 = .ok (.bipush 8, 2) := by decide +kernel
theorem dX3_load_87 : decode cX3_load 87 = .ok (.idiv, 1) := by decide +kernel
theorem dX3_load_88 : decode cX3_load 88 = .ok (.invokevirtual 59, 3) := by decide +kernel
theorem dX3_load_91 : decode cX3_load 91 = .ok (.ifCond .ne 18, 3) := by decide +kernel
theorem dX3_load_94 : decode cX3_load 94 = .ok (.aload_n 0, 1) := by decide +kernel
theorem dX3_load_95 : decode cX3_load 95 = .ok (.aload 4, 2) := by decide +kernel
theorem dX3_load_97 : decode cX3_load 97 = .ok (.iload 5, 2) := by decide +kernel
theorem dX3_load_99 : decode cX3_load 99 = .ok (.aload_n 0, 1) := by decide +kernel
theorem dX3_load_100 : decode cX3_load 100 = .ok (.getfield 32, 3) := by decide +kernel
theorem dX3_load_103 : decode cX3_load 103 = .ok (.iload 5, 2) := by decide +kernel
theorem dX3_load_105 : decode cX3_load 105 = .ok (.iaload, 1) := by decide +kernel
theorem dX3_load_106 : decode cX3_load 106 = .ok (.invokevirtual 63, 3) := by decide +kernel
theorem dX3_load_109 : decode cX3_load 109 = .ok (.iinc 5 1, 3) := by decide +kernel
theorem dX3_load_112 : decode cX3_load 112 = .ok (.goto (-38), 3) := by decide +kernel
theorem dX3_load_115 : decode cX3_load 115 = .ok (.iload_n 2, 1) := by decide +kernel
theorem dX3_load_116 : decode cX3_load 116 = .ok (.ireturn, 1) := by decide +kernel

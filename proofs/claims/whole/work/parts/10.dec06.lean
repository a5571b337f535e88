/-! decode rows (written by program) -/
theorem dX4_end_0 : decode cX4_end 0 = .ok (.aload_n 0, 1) := by decide +kernel
theorem dX4_end_1 : decode cX4_end 1 = .ok (.getfield 13, 3) := by decide +kernel
theorem dX4_end_4 : decode cX4_end 4 = .ok (.iload_n 1, 1) := by decide +kernel
theorem dX4_end_5 : decode cX4_end 5 = .ok (.iconst 3, 1) := by decide +kernel
theorem dX4_end_6 : decode cX4_end 6 = .ok (.iastore, 1) := by decide +kernel
theorem dX4_end_7 : decode cX4_end 7 = .ok (.aload_n 0, 1) := by decide +kernel
theorem dX4_end_8 : decode cX4_end 8 = .ok (.getfield 19, 3) := by decide +kernel
theorem dX4_end_11 : decode cX4_end 11 = .ok (.iload_n 1, 1) := by decide +kernel
theorem dX4_end_12 : decode cX4_end 12 = .ok (.iload_n 2, 1) := by decide +kernel
theorem dX4_end_13 : decode cX4_end 13 = .ok (.iastore, 1) := by decide +kernel
theorem dX4_end_14 : decode cX4_end 14 = .ok (.iconst 0, 1) := by decide +kernel
theorem dX4_end_15 : decode cX4_end 15 = .ok (.istore_n 3, 1) := by decide +kernel
theorem dX4_end_16 : decode cX4_end 16 = .ok (.iload_n 3, 1) := by decide +kernel
theorem dX4_end_17 : decode cX4_end 17 = .ok (.bipush 8, 2) := by decide +kernel
theorem dX4_end_19 : decode cX4_end 19 = .ok (.if_icmp .ge 19, 3) := by decide +kernel
theorem dX4_end_22 : decode cX4_end 22 = .ok (.aload_n 0, 1) := by decide +kernel
theorem dX4_end_23 : decode cX4_end 23 = .ok (.bipush 8, 2) := by decide +kernel
theorem dX4_end_25 : decode cX4_end 25 = .ok (.iload_n 1, 1) := by decide +kernel
theorem dX4_end_26 : decode cX4_end 26 = .ok (.imul, 1) := by decide +kernel
theorem dX4_end_27 : decode cX4_end 27 = .ok (.iload_n 3, 1) := by decide +kernel
theorem dX4_end_28 : decode cX4_end 28 = .ok (.iadd, 1) := by decide +kernel
theorem dX4_end_29 : decode cX4_end 29 = .ok (.invokevirtual 74, 3) := by decide +kernel
theorem dX4_end_32 : decode cX4_end 32 = .ok (.iinc 3 1, 3) := by decide +kernel
theorem dX4_end_35 : decode cX4_end 35 = .ok (.goto (-19), 3) := by decide +kernel
theorem dX4_end_38 : decode cX4_end 38 = .ok (.iconst 0, 1) := by decide +kernel
theorem dX4_end_39 : decode cX4_end 39 = .ok (.istore_n 3, 1) := by decide +kernel
theorem dX4_end_40 : decode cX4_end 40 = .ok (.iload_n 3, 1) := by decide +kernel
theorem dX4_end_41 : decode cX4_end 41 = .ok (.bipush 8, 2) := by decide +kernel
theorem dX4_end_43 : decode cX4_end 43 = .ok (.if_icmp .ge 35, 3) := by decide +kernel
theorem dX4_end_46 : decode cX4_end 46 = .ok (.aload_n 0, 1) := by decide +kernel
theorem dX4_end_47 : decode cX4_end 47 = .ok (.getfield 16, 3) := by decide +kernel
theorem dX4_end_50 : decode cX4_end 50 = .ok (.iload_n 3, 1) := by decide +kernel
theorem dX4_end_51 : decode cX4_end 51 = .ok (.aload_n 0, 1) := by decide +kernel
theorem dX4_end_52 : decode cX4_end 52 = .ok (.getfield 16, 3) := by decide +kernel
theorem dX4_end_55 : decode cX4_end 55 = .ok (.iload_n 3, 1) := by decide +kernel
theorem dX4_end_56 : decode cX4_end 56 = .ok (.iaload, 1) := by decide +kernel
theorem dX4_end_57 : decode cX4_end 57 = .ok (.iload_n 1, 1) := by decide +kernel
theorem dX4_end_58 : decode cX4_end 58 = .ok (.if_icmp .ne 7, 3) := by decide +kernel
theorem dX4_end_61 : decode cX4_end 61 = .ok (.iconst (-1), 1) := by decide +kernel
theorem dX4_end_62 : decode cX4_end 62 = .ok (.goto 9, 3) := by decide +kernel
theorem dX4_end_65 : decode cX4_end 65 = .ok (.aload_n 0, 1) := by decide +kernel
theorem dX4_end_66 : decode cX4_end 66 = .ok (.getfield 16, 3) := by decide +kernel
theorem dX4_end_69 : decode cX4_end 69 = .ok (.iload_n 3, 1) := by decide +kernel
theorem dX4_end_70 : decode cX4_end 70 = .ok (.iaload, 1) := by decide +kernel
theorem dX4_end_71 : decode cX4_end 71 = .ok (.iastore, 1) := by decide +kernel
theorem dX4_end_72 : decode cX4_end 72 = .ok (.iinc 3 1, 3) := by decide +kernel
theorem dX4_end_75 : decode cX4_end 75 = .ok (.goto (-35), 3) := by decide +kernel
theorem dX4_end_78 : decode cX4_end 78 = .ok (.aload_n 0, 1) := by decide +kernel
theorem dX4_end_79 : decode cX4_end 79 = .ok (.getfield 16, 3) := by decide +kernel
theorem dX4_end_82 : decode cX4_end 82 = .ok (.iload_n 1, 1) := by decide +kernel
theorem dX4_end_83 : decode cX4_end 83 = .ok (.iaload, 1) := by decide +kernel
theorem dX4_end_84 : decode cX4_end 84 = .ok (.istore_n 3, 1) := by decide +kernel
theorem dX4_end_85 : decode cX4_end 85 = .ok (.iload_n 3, 1) := by decide +kernel
theorem dX4_end_86 : decode cX4_end 86 = .ok (.iconst (-1), 1) := by decide +kernel
theorem dX4_end_87 : decode cX4_end 87 = .ok (.if_icmp .eq 20, 3) := by decide +kernel
theorem dX4_end_90 : decode cX4_end 90 = .ok (.aload_n 0, 1) := by decide +kernel
theorem dX4_end_91 : decode cX4_end 91 = .ok (.getfield 13, 3) := by decide +kernel
theorem dX4_end_94 : decode cX4_end 94 = .ok (.iload_n 3, 1) := by decide +kernel
theorem dX4_end_95 : decode cX4_end 95 = .ok (.iaload, 1) := by decide +kernel
theorem dX4_end_96 : decode cX4_end 96 = .ok (.iconst 2, 1) := by decide +kernel
theorem dX4_end_97 : decode cX4_end 97 = .ok (.if_icmp .ne 10, 3) := by decide +kernel
theorem dX4_end_100 : decode cX4_end 100 = .ok (.aload_n 0, 1) := by decide +kernel
theorem dX4_end_101 : decode cX4_end 101 = .ok (.getfield 13, 3) := by decide +kernel
theorem dX4_end_104 : decode cX4_end 104 = .ok (.iload_n 3, 1) := by decide +kernel
theorem dX4_end_105 : decode cX4_end 105 = .ok (.iconst 1, 1) := by decide +kernel
theorem dX4_end_106 : decode cX4_end 106 = .ok (.iastore, 1) := by decide +kernel
theorem dX4_end_107 : decode cX4_end 107 = .ok (.return_, 1) := by decide +kernel
theorem dX4_firstFree_0 : decode cX4_firstFree 0 = .ok (.iconst 0, 1) := by decide +kernel
theorem dX4_firstFree_1 : decode cX4_firstFree 1 = .ok (.istore_n 1, 1) := by decide +kernel
theorem dX4_firstFree_2 : decode cX4_firstFree 2 = .ok (.iload_n 1, 1) := by decide +kernel
theorem dX4_firstFree_3 : decode cX4_firstFree 3 = .ok (.bipush 8, 2) := by decide +kernel
theorem dX4_firstFree_5 : decode cX4_firstFree 5 = .ok (.if_icmp .ge 20, 3) := by decide +kernel
theorem dX4_firstFree_8 : decode cX4_firstFree 8 = .ok (.aload_n 0, 1) := by decide +kernel
theorem dX4_firstFree_9 : decode cX4_firstFree 9 = .ok (.getfield 13, 3) := by decide +kernel
theorem dX4_firstFree_12 : decode cX4_firstFree 12 = .ok (.iload_n 1, 1) := by decide +kernel
theorem dX4_firstFree_13 : decode cX4_firstFree 13 = .ok (.iaload, 1) := by decide +kernel
theorem dX4_firstFree_14 : decode cX4_firstFree 14 = .ok (.ifCond .ne 5, 3) := by decide +kernel
theorem dX4_firstFree_17 : decode cX4_firstFree 17 = .ok (.iload_n 1, 1) := by decide +kernel
theorem dX4_firstFree_18 : decode cX4_firstFree 18 = .ok (.ireturn, 1) := by decide +kernel
theorem dX4_firstFree_19 : decode cX4_firstFree 19 = .ok (.iinc 1 1, 3) := by decide +kernel
theorem dX4_firstFree_22 : decode cX4_firstFree 22 = .ok (.goto (-20), 3) := by decide +kernel
theorem dX4_firstFree_25 : decode cX4_firstFree 25 = .ok (.iconst (-1), 1) := by decide +kernel
theorem dX4_firstFree_26 : decode cX4_firstFree 26 = .ok (.ireturn, 1) := by decide +kernel
theorem dX4_fork_0 : decode cX4_fork 0 = .ok (.aload_n 0, 1) := by decide +kernel
theorem dX4_fork_1 : decode cX4_fork 1 = .ok (.invokevirtual 71, 3) := by decide +kernel
theorem dX4_fork_4 : decode cX4_fork 4 = .ok (.istore_n 3, 1) := by decide +kernel
theorem dX4_fork_5 : decode cX4_fork 5 = .ok (.iload_n 3, 1) := by decide +kernel
theorem dX4_fork_6 : decode cX4_fork 6 = .ok (.iconst (-1), 1) := by decide +kernel
theorem dX4_fork_7 : decode cX4_fork 7 = .ok (.if_icmp .ne 17, 3) := by decide +kernel
theorem dX4_fork_10 : decode cX4_fork 10 = .ok (.aload_n 0, 1) := by decide +kernel
theorem dX4_fork_11 : decode cX4_fork 11 = .ok (.getfield 22, 3) := by decide +kernel
theorem dX4_fork_14 : decode cX4_fork 14 = .ok (.bipush 8, 2) := by decide +kernel
theorem dX4_fork_16 : decode cX4_fork 16 = .ok (.iload_n 1, 1) := by decide +kernel
theorem dX4_fork_17 : decode cX4_fork 17 = .ok (.imul, 1) := by decide +kernel
theorem dX4_fork_18 : decode cX4_fork 18 = .ok (.iload_n 2, 1) := by decide +kernel
theorem dX4_fork_19 : decode cX4_fork 19 = .ok (.iadd, 1) := by decide +kernel
theorem dX4_fork_20 : decode cX4_fork 20 = .ok (.iconst (-1), 1) := by decide +kernel
theorem dX4_fork_21 : decode cX4_fork 21 = .ok (.iastore, 1) := by decide +kernel
theorem dX4_fork_22 : decode cX4_fork 22 = .ok (.iconst 1, 1) := by decide +kernel
theorem dX4_fork_23 : decode cX4_fork 23 = .ok (.ireturn, 1) := by decide +kernel
theorem dX4_fork_24 : decode cX4_fork 24 = .ok (.aload_n 0, 1) := by decide +kernel
theorem dX4_fork_25 : decode cX4_fork 25 = .ok (.getfield 13, 3) := by decide +kernel
theorem dX4_fork_28 : decode cX4_fork 28 = .ok (.iload_n 3, 1) := by decide +kernel
theorem dX4_fork_29 : decode cX4_fork 29 = .ok (.iconst 1, 1) := by decide +kernel
theorem dX4_fork_30 : decode cX4_fork 30 = .ok (.iastore, 1) := by decide +kernel
theorem dX4_fork_31 : decode cX4_fork 31 = .ok (.aload_n 0, 1) := by decide +kernel
theorem dX4_fork_32 : decode cX4_fork 32 = .ok (.getfield 16, 3) := by decide +kernel
theorem dX4_fork_35 : decode cX4_fork 35 = .ok (.iload_n 3, 1) := by decide +kernel
theorem dX4_fork_36 : decode cX4_fork 36 = .ok (.iload_n 1, 1) := by decide +kernel
theorem dX4_fork_37 : decode cX4_fork 37 = .ok (.iastore, 1) := by decide +kernel
theorem dX4_fork_38 : decode cX4_fork 38 = .ok (.aload_n 0, 1) := by decide +kernel
theorem dX4_fork_39 : decode cX4_fork 39 = .ok (.getfield 25, 3) := by decide +kernel
theorem dX4_fork_42 : decode cX4_fork 42 = .ok (.iload_n 3, 1) := by decide +kernel
theorem dX4_fork_43 : decode cX4_fork 43 = .ok (.aload_n 0, 1) := by decide +kernel
theorem dX4_fork_44 : decode cX4_fork 44 = .ok (.getfield 25, 3) := by decide +kernel
theorem dX4_fork_47 : decode cX4_fork 47 = .ok (.iload_n 1, 1) := by decide +kernel
theorem dX4_fork_48 : decode cX4_fork 48 = .ok (.iaload, 1) := by decide +kernel
theorem dX4_fork_49 : decode cX4_fork 49 = .ok (.iastore, 1) := by decide +kernel
theorem dX4_fork_50 : decode cX4_fork 50 = .ok (.aload_n 0, 1) := by decide +kernel
theorem dX4_fork_51 : decode cX4_fork 51 = .ok (.getfield 28, 3) := by decide +kernel
theorem dX4_fork_54 : decode cX4_fork 54 = .ok (.iload_n 3, 1) := by decide +kernel
theorem dX4_fork_55 : decode cX4_fork 55 = .ok (.aload_n 0, 1) := by decide +kernel
theorem dX4_fork_56 : decode cX4_fork 56 = .ok (.getfield 28, 3) := by decide +kernel
theorem dX4_fork_59 : decode cX4_fork 59 = .ok (.iload_n 1, 1) := by decide +kernel
theorem dX4_fork_60 : decode cX4_fork 60 = .ok (.iaload, 1) := by decide +kernel
theorem dX4_fork_61 : decode cX4_fork 61 = .ok (.iastore, 1) := by decide +kernel
theorem dX4_fork_62 : decode cX4_fork 62 = .ok (.iconst 0, 1) := by decide +kernel
theorem dX4_fork_63 : decode cX4_fork 63 = .ok (.istore 4, 2) := by decide +kernel
theorem dX4_fork_65 : decode cX4_fork 65 = .ok (.iload 4, 2) := by decide +kernel
theorem dX4_fork_67 : decode cX4_fork 67 = .ok (.bipush 8, 2) := by decide +kernel
theorem dX4_fork_69 : decode cX4_fork 69 = .ok (.if_icmp .ge 67, 3) := by decide +kernel
theorem dX4_fork_72 : decode cX4_fork 72 = .ok (.aload_n 0, 1) := by decide +kernel
theorem dX4_fork_73 : decode cX4_fork 73 = .ok (.getfield 22, 3) := by decide +kernel
theorem dX4_fork_76 : decode cX4_fork 76 = .ok (.bipush 8, 2) := by decide +kernel
theorem dX4_fork_78 : decode cX4_fork 78 = .ok (.iload_n 3, 1) := by decide +kernel
theorem dX4_fork_79 : decode cX4_fork 79 = .ok (.imul, 1) := by decide +kernel
theorem dX4_fork_80 : decode cX4_fork 80 = .ok (.iload 4, 2) := by decide +kernel
theorem dX4_fork_82 : decode cX4_fork 82 = .ok (.iadd, 1) := by decide +kernel
theorem dX4_fork_83 : decode cX4_fork 83 = .ok (.iload 4, 2) := by decide +kernel
theorem dX4_fork_85 : decode cX4_fork 85 = .ok (.iload_n 2, 1) := by decide +kernel
theorem dX4_fork_86 : decode cX4_fork 86 = .ok (.if_icmp .ne 7, 3) := by decide +kernel
theorem dX4_fork_89 : decode cX4_fork 89 = .ok (.iconst 0, 1) := by decide +kernel
theorem dX4_fork_90 : decode cX4_fork 90 = .ok (.goto 15, 3) := by decide +kernel
theorem dX4_fork_93 : decode cX4_fork 93 = .ok (.aload_n 0, 1) := by decide +kernel
theorem dX4_fork_94 : decode cX4_fork 94 = .ok (.getfield 22, 3) := by decide +kernel
theorem dX4_fork_97 : decode cX4_fork 97 = .ok (.bipush 8, 2) := by decide +kernel
theorem dX4_fork_99 : decode cX4_fork 99 = .ok (.iload_n 1, 1) := by decide +kernel
theorem dX4_fork_100 : decode cX4_fork 100 = .ok (.imul, 1) := by decide +kernel
theorem dX4_fork_101 : decode cX4_fork 101 = .ok (.iload 4, 2) := by decide +kernel
theorem dX4_fork_103 : decode cX4_fork 103 = .ok (.iadd, 1) := by decide +kernel
theorem dX4_fork_104 : decode cX4_fork 104 = .ok (.iaload, 1) := by decide +kernel
theorem dX4_fork_105 : decode cX4_fork 105 = .ok (.iastore, 1) := by decide +kernel
theorem dX4_fork_106 : decode cX4_fork 106 = .ok (.aload_n 0, 1) := by decide +kernel
theorem dX4_fork_107 : decode cX4_fork 107 = .ok (.getfield 34, 3) := by decide +kernel
theorem dX4_fork_110 : decode cX4_fork 110 = .ok (.bipush 8, 2) := by decide +kernel
theorem dX4_fork_112 : decode cX4_fork 112 = .ok (.iload_n 3, 1) := by decide +kernel
theorem dX4_fork_113 : decode cX4_fork 113 = .ok (.imul, 1) := by decide +kernel
theorem dX4_fork_114 : decode cX4_fork 114 = .ok (.iload 4, 2) := by decide +kernel
theorem dX4_fork_116 : decode cX4_fork 116 = .ok (.iadd, 1) := by decide +kernel
theorem dX4_fork_117 : decode cX4_fork 117 = .ok (.aload_n 0, 1) := by decide +kernel
theorem dX4_fork_118 : decode cX4_fork 118 = .ok (.getfield 34, 3) := by decide +kernel
theorem dX4_fork_121 : decode cX4_fork 121 = .ok (.bipush 8, 2) := by decide +kernel
theorem dX4_fork_123 : decode cX4_fork 123 = .ok (.iload_n 1, 1) := by decide +kernel
theorem dX4_fork_124 : decode cX4_fork 124 = .ok (.imul, 1) := by decide +kernel
theorem dX4_fork_125 : decode cX4_fork 125 = .ok (.iload 4, 2) := by decide +kernel
theorem dX4_fork_127 : decode cX4_fork 127 = .ok (.iadd, 1) := by decide +kernel
theorem dX4_fork_128 : decode cX4_fork 128 = .ok (.iaload, 1) := by decide +kernel
theorem dX4_fork_129 : decode cX4_fork 129 = .ok (.iastore, 1) := by decide +kernel
theorem dX4_fork_130 : decode cX4_fork 130 = .ok (.iinc 4 1, 3) := by decide +kernel
theorem dX4_fork_133 : decode cX4_fork 133 = .ok (.goto (-68), 3) := by decide +kernel
theorem dX4_fork_136 : decode cX4_fork 136 = .ok (.iconst 0, 1) := by decide +kernel
theorem dX4_fork_137 : decode cX4_fork 137 = .ok (.istore 4, 2) := by decide +kernel
theorem dX4_fork_139 : decode cX4_fork 139 = .ok (.iload 4, 2) := by decide +kernel
theorem dX4_fork_141 : decode cX4_fork 141 = .ok (.bipush 64, 2) := by decide +kernel
theorem dX4_fork_143 : decode cX4_fork 143 = .ok (.if_icmp .ge 33, 3) := by decide +kernel
theorem dX4_fork_146 : decode cX4_fork 146 = .ok (.aload_n 0, 1) := by decide +kernel
theorem dX4_fork_147 : decode cX4_fork 147 = .ok (.getfield 31, 3) := by decide +kernel
theorem dX4_fork_150 : decode cX4_fork 150 = .ok (.bipush 64, 2) := by decide +kernel
theorem dX4_fork_152 : decode cX4_fork 152 = .ok (.iload_n 3, 1) := by decide +kernel
theorem dX4_fork_153 : decode cX4_fork 153 = .ok (.imul, 1) := by decide +kernel
theorem dX4_fork_154 : decode cX4_fork 154 = .ok (.iload 4, 2) := by decide +kernel
theorem dX4_fork_156 : decode cX4_fork 156 = .ok (.iadd, 1) := by decide +kernel
theorem dX4_fork_157 : decode cX4_fork 157 = .ok (.aload_n 0, 1) := by decide +kernel
theorem dX4_fork_158 : decode cX4_fork 158 = .ok (.getfield 31, 3) := by decide +kernel
theorem dX4_fork_161 : decode cX4_fork 161 = .ok (.bipush 64, 2) := by decide +kernel
theorem dX4_fork_163 : decode cX4_fork 163 = .ok (.iload_n 1, 1) := by decide +kernel
theorem dX4_fork_164 : decode cX4_fork 164 = .ok (.imul, 1) := by decide +kernel
theorem dX4_fork_165 : decode cX4_fork 165 = .ok (.iload 4, 2) := by decide +kernel
theorem dX4_fork_167 : decode cX4_fork 167 = .ok (.iadd, 1) := by decide +kernel
theorem dX4_fork_168 : decode cX4_fork 168 = .ok (.iaload, 1) := by decide +kernel
theorem dX4_fork_169 : decode cX4_fork 169 = .ok (.iastore, 1) := by decide +kernel
theorem dX4_fork_170 : decode cX4_fork 170 = .ok (.iinc 4 1, 3) := by decide +kernel
theorem dX4_fork_173 : decode cX4_fork 173 = .ok (.goto (-34), 3) := by decide +kernel
theorem dX4_fork_176 : decode cX4_fork 176 = .ok (.aload_n 0, 1) := by decide +kernel
theorem dX4_fork_177 : decode cX4_fork 177 = .ok (.getfield 22, 3) := by decide +kernel
theorem dX4_fork_180 : decode cX4_fork 180 = .ok (.bipush 8, 2) := by decide +kernel
theorem dX4_fork_182 : decode cX4_fork 182 = .ok (.iload_n 1, 1) := by decide +kernel
theorem dX4_fork_183 : decode cX4_fork 183 = .ok (.imul, 1) := by decide +kernel
theorem dX4_fork_184 : decode cX4_fork 184 = .ok (.iload_n 2, 1) := by decide +kernel
theorem dX4_fork_185 : decode cX4_fork 185 = .ok (.iadd, 1) := by decide +kernel
theorem dX4_fork_186 : decode cX4_fork 186 = .ok (.iload_n 3, 1) := by decide +kernel
theorem dX4_fork_187 : decode cX4_fork 187 = .ok (.iastore, 1) := by decide +kernel
theorem dX4_fork_188 : decode cX4_fork 188 = .ok (.iconst 3, 1) := by decide +kernel
theorem dX4_fork_189 : decode cX4_fork 189 = .ok (.ireturn, 1) := by decide +kernel
theorem dX4_frames_0 : decode cX4_frames 0 = .ok (.iconst 0, 1) := by decide +kernel
theorem dX4_frames_1 : decode cX4_frames 1 = .ok (.istore_n 1, 1) := by decide +kernel
theorem dX4_frames_2 : decode cX4_frames 2 = .ok (.iconst 0, 1) := by decide +kernel
theorem dX4_frames_3 : decode cX4_frames 3 = .ok (.istore_n 2, 1) := by decide +kernel
theorem dX4_frames_4 : decode cX4_frames 4 = .ok (.iload_n 2, 1) := by decide +kernel
theorem dX4_frames_5 : decode cX4_frames 5 = .ok (.bipush 64, 2) := by decide +kernel
theorem dX4_frames_7 : decode cX4_frames 7 = .ok (.if_icmp .ge 77, 3) := by decide +kernel
theorem dX4_frames_10 : decode cX4_frames 10 = .ok (.aload_n 0, 1) := by decide +kernel
theorem dX4_frames_11 : decode cX4_frames 11 = .ok (.getfield 34, 3) := by decide +kernel
theorem dX4_frames_14 : decode cX4_frames 14 = .ok (.iload_n 2, 1) := by decide +kernel
theorem dX4_frames_15 : decode cX4_frames 15 = .ok (.iaload, 1) := by decide +kernel
theorem dX4_frames_16 : decode cX4_frames 16 = .ok (.ifCond .le 7, 3) := by decide +kernel
theorem dX4_frames_19 : decode cX4_frames 19 = .ok (.iconst 1, 1) := by decide +kernel
theorem dX4_frames_20 : decode cX4_frames 20 = .ok (.goto 4, 3) := by decide +kernel
theorem dX4_frames_23 : decode cX4_frames 23 = .ok (.iconst 0, 1) := by decide +kernel
theorem dX4_frames_24 : decode cX4_frames 24 = .ok (.istore_n 3, 1) := by decide +kernel
theorem dX4_frames_25 : decode cX4_frames 25 = .ok (.iconst 0, 1) := by decide +kernel
theorem dX4_frames_26 : decode cX4_frames 26 = .ok (.istore 4, 2) := by decide +kernel
theorem dX4_frames_28 : decode cX4_frames 28 = .ok (.iload 4, 2) := by decide +kernel
theorem dX4_frames_30 : decode cX4_frames 30 = .ok (.iload_n 2, 1) := by decide +kernel
theorem dX4_frames_31 : decode cX4_frames 31 = .ok (.if_icmp .ge 35, 3) := by decide +kernel
theorem dX4_frames_34 : decode cX4_frames 34 = .ok (.iload_n 3, 1) := by decide +kernel
theorem dX4_frames_35 : decode cX4_frames 35 = .ok (.ifCond .eq 23, 3) := by decide +kernel
theorem dX4_frames_38 : decode cX4_frames 38 = .ok (.aload_n 0, 1) := by decide +kernel
theorem dX4_frames_39 : decode cX4_frames 39 = .ok (.getfield 34, 3) := by decide +kernel
theorem dX4_frames_42 : decode cX4_frames 42 = .ok (.iload 4, 2) := by decide +kernel
theorem dX4_frames_44 : decode cX4_frames 44 = .ok (.iaload, 1) := by decide +kernel
theorem dX4_frames_45 : decode cX4_frames 45 = .ok (.aload_n 0, 1) := by decide +kernel
theorem dX4_frames_46 : decode cX4_frames 46 = .ok (.getfield 34, 3) := by decide +kernel
theorem dX4_frames_49 : decode cX4_frames 49 = .ok (.iload_n 2, 1) := by decide +kernel
theorem dX4_frames_50 : decode cX4_frames 50 = .ok (.iaload, 1) := by decide +kernel
theorem dX4_frames_51 : decode cX4_frames 51 = .ok (.if_icmp .eq 7, 3) := by decide +kernel
theorem dX4_frames_54 : decode cX4_frames 54 = .ok (.iconst 1, 1) := by decide +kernel
theorem dX4_frames_55 : decode cX4_frames 55 = .ok (.goto 4, 3) := by decide +kernel
theorem dX4_frames_58 : decode cX4_frames 58 = .ok (.iconst 0, 1) := by decide +kernel
theorem dX4_frames_59 : decode cX4_frames 59 = .ok (.istore_n 3, 1) := by decide +kernel
theorem dX4_frames_60 : decode cX4_frames 60 = .ok (.iinc 4 1, 3) := by decide +kernel
theorem dX4_frames_63 : decode cX4_frames 63 = .ok (.goto (-35), 3) := by decide +kernel
theorem dX4_frames_66 : decode cX4_frames 66 = .ok (.iload_n 1, 1) := by decide +kernel
theorem dX4_frames_67 : decode cX4_frames 67 = .ok (.iload_n 3, 1) := by decide +kernel
theorem dX4_frames_68 : decode cX4_frames 68 = .ok (.ifCond .eq 7, 3) := by decide +kernel
theorem dX4_frames_71 : decode cX4_frames 71 = .ok (.iconst 1, 1) := by decide +kernel
theorem dX4_frames_72 : decode cX4_frames 72 = .ok (.goto 4, 3) := by decide +kernel
theorem dX4_frames_75 : decode cX4_frames 75 = .ok (.iconst 0, 1) := by decide +kernel
theorem dX4_frames_76 : decode cX4_frames 76 = .ok (.iadd, 1) := by decide +kernel
theorem dX4_frames_77 : decode cX4_frames 77 = .ok (.istore_n 1, 1) := by decide +kernel
theorem dX4_frames_78 : decode cX4_frames 78 = .ok (.iinc 2 1, 3) := by decide +kernel
theorem dX4_frames_81 : decode cX4_frames 81 = .ok (.goto (-77), 3) := by decide +kernel
theorem dX4_frames_84 : decode cX4_frames 84 = .ok (.iload_n 1, 1) := by decide +kernel
theorem dX4_frames_85 : decode cX4_frames 85 = .ok (.ireturn, 1) := by decide +kernel
theorem dX4_free_0 : decode cX4_free 0 = .ok (.aload_n 0, 1) := by decide +kernel
theorem dX4_free_1 : decode cX4_free 1 = .ok (.getfield 13, 3) := by decide +kernel
theorem dX4_free_4 : decode cX4_free 4 = .ok (.iload_n 1, 1) := by decide +kernel
theorem dX4_free_5 : decode cX4_free 5 = .ok (.iconst 0, 1) := by decide +kernel
theorem dX4_free_6 : decode cX4_free 6 = .ok (.iastore, 1) := by decide +kernel
theorem dX4_free_7 : decode cX4_free 7 = .ok (.aload_n 0, 1) := by decide +kernel
theorem dX4_free_8 : decode cX4_free 8 = .ok (.getfield 16, 3) := by decide +kernel
theorem dX4_free_11 : decode cX4_free 11 = .ok (.iload_n 1, 1) := by decide +kernel
theorem dX4_free_12 : decode cX4_free 12 = .ok (.iconst (-1), 1) := by decide +kernel
theorem dX4_free_13 : decode cX4_free 13 = .ok (.iastore, 1) := by decide +kernel
theorem dX4_free_14 : decode cX4_free 14 = .ok (.return_, 1) := by decide +kernel
theorem dX4_grow_0 : decode cX4_grow 0 = .ok (.aload_n 0, 1) := by decide +kernel
theorem dX4_grow_1 : decode cX4_grow 1 = .ok (.getfield 28, 3) := by decide +kernel
theorem dX4_grow_4 : decode cX4_grow 4 = .ok (.iload_n 1, 1) := by decide +kernel
theorem dX4_grow_5 : decode cX4_grow 5 = .ok (.iaload, 1) := by decide +kernel
theorem dX4_grow_6 : decode cX4_grow 6 = .ok (.istore 4, 2) := by decide +kernel
theorem dX4_grow_8 : decode cX4_grow 8 = .ok (.iload 4, 2) := by decide +kernel
theorem dX4_grow_10 : decode cX4_grow 10 = .ok (.iload_n 3, 1) := by decide +kernel
theorem dX4_grow_11 : decode cX4_grow 11 = .ok (.iadd, 1) := by decide +kernel
theorem dX4_grow_12 : decode cX4_grow 12 = .ok (.istore 5, 2) := by decide +kernel
theorem dX4_grow_14 : decode cX4_grow 14 = .ok (.iload 5, 2) := by decide +kernel
theorem dX4_grow_16 : decode cX4_grow 16 = .ok (.ifCond .lt 10, 3) := by decide +kernel
theorem dX4_grow_19 : decode cX4_grow 19 = .ok (.iload 5, 2) := by decide +kernel
theorem dX4_grow_21 : decode cX4_grow 21 = .ok (.bipush 64, 2) := by decide +kernel
theorem dX4_grow_23 : decode cX4_grow 23 = .ok (.if_icmp .le 16, 3) := by decide +kernel
theorem dX4_grow_26 : decode cX4_grow 26 = .ok (.aload_n 0, 1) := by decide +kernel
theorem dX4_grow_27 : decode cX4_grow 27 = .ok (.getfield 22, 3) := by decide +kernel
theorem dX4_grow_30 : decode cX4_grow 30 = .ok (.bipush 8, 2) := by decide +kernel
theorem dX4_grow_32 : decode cX4_grow 32 = .ok (.iload_n 1, 1) := by decide +kernel
theorem dX4_grow_33 : decode cX4_grow 33 = .ok (.imul, 1) := by decide +kernel
theorem dX4_grow_34 : decode cX4_grow 34 = .ok (.iload_n 2, 1) := by decide +kernel
theorem dX4_grow_35 : decode cX4_grow 35 = .ok (.iadd, 1) := by decide +kernel
theorem dX4_grow_36 : decode cX4_grow 36 = .ok (.iconst (-1), 1) := by decide +kernel
theorem dX4_grow_37 : decode cX4_grow 37 = .ok (.iastore, 1) := by decide +kernel
theorem dX4_grow_38 : decode cX4_grow 38 = .ok (.return_, 1) := by decide +kernel
theorem dX4_grow_39 : decode cX4_grow 39 = .ok (.aload_n 0, 1) := by decide +kernel
theorem dX4_grow_40 : decode cX4_grow 40 = .ok (.getfield 22, 3) := by decide +kernel
theorem dX4_grow_43 : decode cX4_grow 43 = .ok (.bipush 8, 2) := by decide +kernel
theorem dX4_grow_45 : decode cX4_grow 45 = .ok (.iload_n 1, 1) := by decide +kernel
theorem dX4_grow_46 : decode cX4_grow 46 = .ok (.imul, 1) := by decide +kernel
theorem dX4_grow_47 : decode cX4_grow 47 = .ok (.iload_n 2, 1) := by decide +kernel
theorem dX4_grow_48 : decode cX4_grow 48 = .ok (.iadd, 1) := by decide +kernel
theorem dX4_grow_49 : decode cX4_grow 49 = .ok (.iload 4, 2) := by decide +kernel
theorem dX4_grow_51 : decode cX4_grow 51 = .ok (.iastore, 1) := by decide +kernel
theorem dX4_grow_52 : decode cX4_grow 52 = .ok (.iload 5, 2) := by decide +kernel
theorem dX4_grow_54 : decode cX4_grow 54 = .ok (.iload 4, 2) := by decide +kernel
theorem dX4_grow_56 : decode cX4_grow 56 = .ok (.if_icmp .ge 33, 3) := by decide +kernel
theorem dX4_grow_59 : decode cX4_grow 59 = .ok (.iload 5, 2) := by decide +kernel
theorem dX4_grow_61 : decode cX4_grow 61 = .ok (.bipush 8, 2) := by decide +kernel
theorem dX4_grow_63 : decode cX4_grow 63 = .ok (.irem, 1) := by decide +kernel
theorem dX4_grow_64 : decode cX4_grow 64 = .ok (.ifCond .eq 25, 3) := by decide +kernel
theorem dX4_grow_67 : decode cX4_grow 67 = .ok (.aload_n 0, 1) := by decide +kernel
theorem dX4_grow_68 : decode cX4_grow 68 = .ok (.getfield 34, 3) := by decide +kernel
theorem dX4_grow_71 : decode cX4_grow 71 = .ok (.bipush 8, 2) := by decide +kernel
theorem dX4_grow_73 : decode cX4_grow 73 = .ok (.iload_n 1, 1) := by decide +kernel
theorem dX4_grow_74 : decode cX4_grow 74 = .ok (.imul, 1) := by decide +kernel
theorem dX4_grow_75 : decode cX4_grow 75 = .ok (.iload 5, 2) := by decide +kernel
theorem dX4_grow_77 : decode cX4_grow 77 = .ok (.bipush 8, 2) := by decide +kernel
theorem dX4_grow_79 : decode cX4_grow 79 = .ok (.idiv, 1) := by decide +kernel
theorem dX4_grow_80 : decode cX4_grow 80 = .ok (.iadd, 1) := by decide +kernel
theorem dX4_grow_81 : decode cX4_grow 81 = .ok (.iaload, 1) := by decide +kernel
theorem dX4_grow_82 : decode cX4_grow 82 = .ok (.ifCond .le 7, 3) := by decide +kernel
theorem dX4_grow_85 : decode cX4_grow 85 = .ok (.iconst 1, 1) := by decide +kernel
theorem dX4_grow_86 : decode cX4_grow 86 = .ok (.goto 4, 3) := by decide +kernel
theorem dX4_grow_89 : decode cX4_grow 89 = .ok (.iconst 0, 1) := by decide +kernel
theorem dX4_grow_90 : decode cX4_grow 90 = .ok (.istore 6, 2) := by decide +kernel
theorem dX4_grow_92 : decode cX4_grow 92 = .ok (.aload_n 0, 1) := by decide +kernel
theorem dX4_grow_93 : decode cX4_grow 93 = .ok (.getfield 28, 3) := by decide +kernel
theorem dX4_grow_96 : decode cX4_grow 96 = .ok (.iload_n 1, 1) := by decide +kernel
theorem dX4_grow_97 : decode cX4_grow 97 = .ok (.iload 5, 2) := by decide +kernel
theorem dX4_grow_99 : decode cX4_grow 99 = .ok (.iastore, 1) := by decide +kernel
theorem dX4_grow_100 : decode cX4_grow 100 = .ok (.iconst 0, 1) := by decide +kernel
theorem dX4_grow_101 : decode cX4_grow 101 = .ok (.istore 7, 2) := by decide +kernel
theorem dX4_grow_103 : decode cX4_grow 103 = .ok (.iload 7, 2) := by decide +kernel
theorem dX4_grow_105 : decode cX4_grow 105 = .ok (.bipush 8, 2) := by decide +kernel
theorem dX4_grow_107 : decode cX4_grow 107 = .ok (.if_icmp .ge 30, 3) := by decide +kernel
theorem dX4_grow_110 : decode cX4_grow 110 = .ok (.bipush 8, 2) := by decide +kernel
theorem dX4_grow_112 : decode cX4_grow 112 = .ok (.iload 7, 2) := by decide +kernel
theorem dX4_grow_114 : decode cX4_grow 114 = .ok (.imul, 1) := by decide +kernel
theorem dX4_grow_115 : decode cX4_grow 115 = .ok (.iload 5, 2) := by decide +kernel
theorem dX4_grow_117 : decode cX4_grow 117 = .ok (.if_icmp .lt 14, 3) := by decide +kernel
theorem dX4_grow_120 : decode cX4_grow 120 = .ok (.aload_n 0, 1) := by decide +kernel
theorem dX4_grow_121 : decode cX4_grow 121 = .ok (.bipush 8, 2) := by decide +kernel
theorem dX4_grow_123 : decode cX4_grow 123 = .ok (.iload_n 1, 1) := by decide +kernel
theorem dX4_grow_124 : decode cX4_grow 124 = .ok (.imul, 1) := by decide +kernel
theorem dX4_grow_125 : decode cX4_grow 125 = .ok (.iload 7, 2) := by decide +kernel
theorem dX4_grow_127 : decode cX4_grow 127 = .ok (.iadd, 1) := by decide +kernel
theorem dX4_grow_128 : decode cX4_grow 128 = .ok (.invokevirtual 74, 3) := by decide +kernel
theorem dX4_grow_131 : decode cX4_grow 131 = .ok (.iinc 7 1, 3) := by decide +kernel
theorem dX4_grow_134 : decode cX4_grow 134 = .ok (.goto (-31), 3) := by decide +kernel
theorem dX4_grow_137 : decode cX4_grow 137 = .ok (.iload 6, 2) := by decide +kernel
theorem dX4_grow_139 : decode cX4_grow 139 = .ok (.ifCond .eq 69, 3) := by decide +kernel
theorem dX4_grow_142 : decode cX4_grow 142 = .ok (.aload_n 0, 1) := by decide +kernel
theorem dX4_grow_143 : decode cX4_grow 143 = .ok (.bipush 8, 2) := by decide +kernel
theorem dX4_grow_145 : decode cX4_grow 145 = .ok (.iload_n 1, 1) := by decide +kernel
theorem dX4_grow_146 : decode cX4_grow 146 = .ok (.imul, 1) := by decide +kernel
theorem dX4_grow_147 : decode cX4_grow 147 = .ok (.iload 5, 2) := by decide +kernel
theorem dX4_grow_149 : decode cX4_grow 149 = .ok (.bipush 8, 2) := by decide +kernel
theorem dX4_grow_151 : decode cX4_grow 151 = .ok (.idiv, 1) := by decide +kernel
theorem dX4_grow_152 : decode cX4_grow 152 = .ok (.iadd, 1) := by decide +kernel
theorem dX4_grow_153 : decode cX4_grow 153 = .ok (.invokevirtual 60, 3) := by decide +kernel
theorem dX4_grow_156 : decode cX4_grow 156 = .ok (.iconst 1, 1) := by decide +kernel
theorem dX4_grow_157 : decode cX4_grow 157 = .ok (.if_icmp .eq 20, 3) := by decide +kernel
theorem dX4_grow_160 : decode cX4_grow 160 = .ok (.aload_n 0, 1) := by decide +kernel
theorem dX4_grow_161 : decode cX4_grow 161 = .ok (.bipush 8, 2) := by decide +kernel
theorem dX4_grow_163 : decode cX4_grow 163 = .ok (.iload_n 1, 1) := by decide +kernel
theorem dX4_grow_164 : decode cX4_grow 164 = .ok (.imul, 1) := by decide +kernel
theorem dX4_grow_165 : decode cX4_grow 165 = .ok (.iload 5, 2) := by decide +kernel
theorem dX4_grow_167 : decode cX4_grow 167 = .ok (.bipush 8, 2) := by decide +kernel
theorem dX4_grow_169 : decode cX4_grow 169 = .ok (.idiv, 1) := by decide +kernel
theorem dX4_grow_170 : decode cX4_grow 170 = .ok (.iadd, 1) := by decide +kernel
theorem dX4_grow_171 : decode cX4_grow 171 = .ok (.invokevirtual 64, 3) := by decide +kernel
theorem dX4_grow_174 : decode cX4_grow 174 = .ok (.ifCond .eq 34, 3) := by decide +kernel
theorem dX4_grow_177 : decode cX4_grow 177 = .ok (.iload 5, 2) := by decide +kernel
theorem dX4_grow_179 : decode cX4_grow 179 = .ok (.istore 7, 2) := by decide +kernel
theorem dX4_grow_181 : decode cX4_grow 181 = .ok (.iload 7, 2) := by decide +kernel
theorem dX4_grow_183 : decode cX4_grow 183 = .ok (.bipush 8, 2) := by decide +kernel
theorem dX4_grow_185 : decode cX4_grow 185 = .ok (.irem, 1) := by decide +kernel
theorem dX4_grow_186 : decode cX4_grow 186 = .ok (.ifCond .eq 22, 3) := by decide +kernel
theorem dX4_grow_189 : decode cX4_grow 189 = .ok (.aload_n 0, 1) := by decide +kernel
theorem dX4_grow_190 : decode cX4_grow 190 = .ok (.getfield 31, 3) := by decide +kernel
theorem dX4_grow_193 : decode cX4_grow 193 = .ok (.bipush 64, 2) := by decide +kernel
theorem dX4_grow_195 : decode cX4_grow 195 = .ok (.iload_n 1, 1) := by decide +kernel
theorem dX4_grow_196 : decode cX4_grow 196 = .ok (.imul, 1) := by decide +kernel
theorem dX4_grow_197 : decode cX4_grow 197 = .ok (.iload 7, 2) := by decide +kernel
theorem dX4_grow_199 : decode cX4_grow 199 = .ok (.iadd, 1) := by decide +kernel
theorem dX4_grow_200 : decode cX4_grow 200 = .ok (.iconst 0, 1) := by decide +kernel
theorem dX4_grow_201 : decode cX4_grow 201 = .ok (.iastore, 1) := by decide +kernel
theorem dX4_grow_202 : decode cX4_grow 202 = .ok (.iinc 7 1, 3) := by decide +kernel
theorem dX4_grow_205 : decode cX4_grow 205 = .ok (.goto (-24), 3) := by decide +kernel
theorem dX4_grow_208 : decode cX4_grow 208 = .ok (.return_, 1) := by decide +kernel

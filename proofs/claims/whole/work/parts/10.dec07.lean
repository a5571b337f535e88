/-! decode rows (written by program) -/
theorem dX4_init_0 : decode cX4_init 0 = .ok (.aload_n 0, 1) := by decide +kernel
theorem dX4_init_1 : decode cX4_init 1 = .ok (.invokespecial 1, 3) := by decide +kernel
theorem dX4_init_4 : decode cX4_init 4 = .ok (.aload_n 0, 1) := by decide +kernel
theorem dX4_init_5 : decode cX4_init 5 = .ok (.bipush 64, 2) := by decide +kernel
theorem dX4_init_7 : decode cX4_init 7 = .ok (.newarray .int, 2) := by decide +kernel
theorem dX4_init_9 : decode cX4_init 9 = .ok (.putfield 7, 3) := by decide +kernel
theorem dX4_init_12 : decode cX4_init 12 = .ok (.aload_n 0, 1) := by decide +kernel
theorem dX4_init_13 : decode cX4_init 13 = .ok (.bipush 8, 2) := by decide +kernel
theorem dX4_init_15 : decode cX4_init 15 = .ok (.newarray .int, 2) := by decide +kernel
theorem dX4_init_17 : decode cX4_init 17 = .ok (.putfield 13, 3) := by decide +kernel
theorem dX4_init_20 : decode cX4_init 20 = .ok (.aload_n 0, 1) := by decide +kernel
theorem dX4_init_21 : decode cX4_init 21 = .ok (.bipush 8, 2) := by decide +kernel
theorem dX4_init_23 : decode cX4_init 23 = .ok (.newarray .int, 2) := by decide +kernel
theorem dX4_init_25 : decode cX4_init 25 = .ok (.putfield 16, 3) := by decide +kernel
theorem dX4_init_28 : decode cX4_init 28 = .ok (.aload_n 0, 1) := by decide +kernel
theorem dX4_init_29 : decode cX4_init 29 = .ok (.bipush 8, 2) := by decide +kernel
theorem dX4_init_31 : decode cX4_init 31 = .ok (.newarray .int, 2) := by decide +kernel
theorem dX4_init_33 : decode cX4_init 33 = .ok (.putfield 19, 3) := by decide +kernel
theorem dX4_init_36 : decode cX4_init 36 = .ok (.aload_n 0, 1) := by decide +kernel
theorem dX4_init_37 : decode cX4_init 37 = .ok (.bipush 64, 2) := by decide +kernel
theorem dX4_init_39 : decode cX4_init 39 = .ok (.newarray .int, 2) := by decide +kernel
theorem dX4_init_41 : decode cX4_init 41 = .ok (.putfield 22, 3) := by decide +kernel
theorem dX4_init_44 : decode cX4_init 44 = .ok (.aload_n 0, 1) := by decide +kernel
theorem dX4_init_45 : decode cX4_init 45 = .ok (.bipush 8, 2) := by decide +kernel
theorem dX4_init_47 : decode cX4_init 47 = .ok (.newarray .int, 2) := by decide +kernel
theorem dX4_init_49 : decode cX4_init 49 = .ok (.putfield 25, 3) := by decide +kernel
theorem dX4_init_52 : decode cX4_init 52 = .ok (.aload_n 0, 1) := by decide +kernel
theorem dX4_init_53 : decode cX4_init 53 = .ok (.bipush 8, 2) := by decide +kernel
theorem dX4_init_55 : decode cX4_init 55 = .ok (.newarray .int, 2) := by decide +kernel
theorem dX4_init_57 : decode cX4_init 57 = .ok (.putfield 28, 3) := by decide +kernel
theorem dX4_init_60 : decode cX4_init 60 = .ok (.aload_n 0, 1) := by decide +kernel
theorem dX4_init_61 : decode cX4_init 61 = .ok (.sipush 512, 3) := by decide +kernel
theorem dX4_init_64 : decode cX4_init 64 = .ok (.newarray .int, 2) := by decide +kernel
theorem dX4_init_66 : decode cX4_init 66 = .ok (.putfield 31, 3) := by decide +kernel
theorem dX4_init_69 : decode cX4_init 69 = .ok (.aload_n 0, 1) := by decide +kernel
theorem dX4_init_70 : decode cX4_init 70 = .ok (.bipush 64, 2) := by decide +kernel
theorem dX4_init_72 : decode cX4_init 72 = .ok (.newarray .int, 2) := by decide +kernel
theorem dX4_init_74 : decode cX4_init 74 = .ok (.putfield 34, 3) := by decide +kernel
theorem dX4_init_77 : decode cX4_init 77 = .ok (.aload_n 0, 1) := by decide +kernel
theorem dX4_init_78 : decode cX4_init 78 = .ok (.iconst (-1), 1) := by decide +kernel
theorem dX4_init_79 : decode cX4_init 79 = .ok (.putfield 37, 3) := by decide +kernel
theorem dX4_init_82 : decode cX4_init 82 = .ok (.aload_n 0, 1) := by decide +kernel
theorem dX4_init_83 : decode cX4_init 83 = .ok (.bipush 32, 2) := by decide +kernel
theorem dX4_init_85 : decode cX4_init 85 = .ok (.newarray .int, 2) := by decide +kernel
theorem dX4_init_87 : decode cX4_init 87 = .ok (.putfield 41, 3) := by decide +kernel
theorem dX4_init_90 : decode cX4_init 90 = .ok (.aload_n 0, 1) := by decide +kernel
theorem dX4_init_91 : decode cX4_init 91 = .ok (.iload_n 1, 1) := by decide +kernel
theorem dX4_init_92 : decode cX4_init 92 = .ok (.iconst 2, 1) := by decide +kernel
theorem dX4_init_93 : decode cX4_init 93 = .ok (.if_icmp .lt 9, 3) := by decide +kernel
theorem dX4_init_96 : decode cX4_init 96 = .ok (.iload_n 1, 1) := by decide +kernel
theorem dX4_init_97 : decode cX4_init 97 = .ok (.bipush 32, 2) := by decide +kernel
theorem dX4_init_99 : decode cX4_init 99 = .ok (.if_icmp .le 8, 3) := by decide +kernel
theorem dX4_init_102 : decode cX4_init 102 = .ok (.bipush 12, 2) := by decide +kernel
theorem dX4_init_104 : decode cX4_init 104 = .ok (.goto 4, 3) := by decide +kernel
theorem dX4_init_107 : decode cX4_init 107 = .ok (.iload_n 1, 1) := by decide +kernel
theorem dX4_init_108 : decode cX4_init 108 = .ok (.putfield 44, 3) := by decide +kernel
theorem dX4_init_111 : decode cX4_init 111 = .ok (.aload_n 0, 1) := by decide +kernel
theorem dX4_init_112 : decode cX4_init 112 = .ok (.iload_n 2, 1) := by decide +kernel
theorem dX4_init_113 : decode cX4_init 113 = .ok (.iconst 1, 1) := by decide +kernel
theorem dX4_init_114 : decode cX4_init 114 = .ok (.if_icmp .lt 9, 3) := by decide +kernel
theorem dX4_init_117 : decode cX4_init 117 = .ok (.iload_n 2, 1) := by decide +kernel
theorem dX4_init_118 : decode cX4_init 118 = .ok (.bipush 20, 2) := by decide +kernel
theorem dX4_init_120 : decode cX4_init 120 = .ok (.if_icmp .le 7, 3) := by decide +kernel
theorem dX4_init_123 : decode cX4_init 123 = .ok (.iconst 3, 1) := by decide +kernel
theorem dX4_init_124 : decode cX4_init 124 = .ok (.goto 4, 3) := by decide +kernel
theorem dX4_init_127 : decode cX4_init 127 = .ok (.iload_n 2, 1) := by decide +kernel
theorem dX4_init_128 : decode cX4_init 128 = .ok (.putfield 47, 3) := by decide +kernel
theorem dX4_init_131 : decode cX4_init 131 = .ok (.iconst 0, 1) := by decide +kernel
theorem dX4_init_132 : decode cX4_init 132 = .ok (.istore_n 3, 1) := by decide +kernel
theorem dX4_init_133 : decode cX4_init 133 = .ok (.iload_n 3, 1) := by decide +kernel
theorem dX4_init_134 : decode cX4_init 134 = .ok (.bipush 8, 2) := by decide +kernel
theorem dX4_init_136 : decode cX4_init 136 = .ok (.if_icmp .ge 16, 3) := by decide +kernel
theorem dX4_init_139 : decode cX4_init 139 = .ok (.aload_n 0, 1) := by decide +kernel
theorem dX4_init_140 : decode cX4_init 140 = .ok (.getfield 16, 3) := by decide +kernel
theorem dX4_init_143 : decode cX4_init 143 = .ok (.iload_n 3, 1) := by decide +kernel
theorem dX4_init_144 : decode cX4_init 144 = .ok (.iconst (-1), 1) := by decide +kernel
theorem dX4_init_145 : decode cX4_init 145 = .ok (.iastore, 1) := by decide +kernel
theorem dX4_init_146 : decode cX4_init 146 = .ok (.iinc 3 1, 3) := by decide +kernel
theorem dX4_init_149 : decode cX4_init 149 = .ok (.goto (-16), 3) := by decide +kernel
theorem dX4_init_152 : decode cX4_init 152 = .ok (.return_, 1) := by decide +kernel
theorem dX4_isProcess_0 : decode cX4_isProcess 0 = .ok (.iload_n 0, 1) := by decide +kernel
theorem dX4_isProcess_1 : decode cX4_isProcess 1 = .ok (.ifCond .lt 13, 3) := by decide +kernel
theorem dX4_isProcess_4 : decode cX4_isProcess 4 = .ok (.iload_n 0, 1) := by decide +kernel
theorem dX4_isProcess_5 : decode cX4_isProcess 5 = .ok (.bipush 8, 2) := by decide +kernel
theorem dX4_isProcess_7 : decode cX4_isProcess 7 = .ok (.if_icmp .ge 7, 3) := by decide +kernel
theorem dX4_isProcess_10 : decode cX4_isProcess 10 = .ok (.iconst 1, 1) := by decide +kernel
theorem dX4_isProcess_11 : decode cX4_isProcess 11 = .ok (.goto 4, 3) := by decide +kernel
theorem dX4_isProcess_14 : decode cX4_isProcess 14 = .ok (.iconst 0, 1) := by decide +kernel
theorem dX4_isProcess_15 : decode cX4_isProcess 15 = .ok (.ireturn, 1) := by decide +kernel
theorem dX4_kill_0 : decode cX4_kill 0 = .ok (.aload_n 0, 1) := by decide +kernel
theorem dX4_kill_1 : decode cX4_kill 1 = .ok (.iload_n 1, 1) := by decide +kernel
theorem dX4_kill_2 : decode cX4_kill 2 = .ok (.invokevirtual 78, 3) := by decide +kernel
theorem dX4_kill_5 : decode cX4_kill 5 = .ok (.ifCond .ne 5, 3) := by decide +kernel
theorem dX4_kill_8 : decode cX4_kill 8 = .ok (.iconst 0, 1) := by decide +kernel
theorem dX4_kill_9 : decode cX4_kill 9 = .ok (.ireturn, 1) := by decide +kernel
theorem dX4_kill_10 : decode cX4_kill 10 = .ok (.aload_n 0, 1) := by decide +kernel
theorem dX4_kill_11 : decode cX4_kill 11 = .ok (.iload_n 1, 1) := by decide +kernel
theorem dX4_kill_12 : decode cX4_kill 12 = .ok (.bipush (-14), 2) := by decide +kernel
theorem dX4_kill_14 : decode cX4_kill 14 = .ok (.invokevirtual 81, 3) := by decide +kernel
theorem dX4_kill_17 : decode cX4_kill 17 = .ok (.iconst 1, 1) := by decide +kernel
theorem dX4_kill_18 : decode cX4_kill 18 = .ok (.ireturn, 1) := by decide +kernel
theorem dX4_lives_0 : decode cX4_lives 0 = .ok (.iload_n 1, 1) := by decide +kernel
theorem dX4_lives_1 : decode cX4_lives 1 = .ok (.invokestatic 68, 3) := by decide +kernel
theorem dX4_lives_4 : decode cX4_lives 4 = .ok (.ifCond .eq 27, 3) := by decide +kernel
theorem dX4_lives_7 : decode cX4_lives 7 = .ok (.aload_n 0, 1) := by decide +kernel
theorem dX4_lives_8 : decode cX4_lives 8 = .ok (.getfield 13, 3) := by decide +kernel
theorem dX4_lives_11 : decode cX4_lives 11 = .ok (.iload_n 1, 1) := by decide +kernel
theorem dX4_lives_12 : decode cX4_lives 12 = .ok (.iaload, 1) := by decide +kernel
theorem dX4_lives_13 : decode cX4_lives 13 = .ok (.iconst 1, 1) := by decide +kernel
theorem dX4_lives_14 : decode cX4_lives 14 = .ok (.if_icmp .eq 13, 3) := by decide +kernel
theorem dX4_lives_17 : decode cX4_lives 17 = .ok (.aload_n 0, 1) := by decide +kernel
theorem dX4_lives_18 : decode cX4_lives 18 = .ok (.getfield 13, 3) := by decide +kernel
theorem dX4_lives_21 : decode cX4_lives 21 = .ok (.iload_n 1, 1) := by decide +kernel
theorem dX4_lives_22 : decode cX4_lives 22 = .ok (.iaload, 1) := by decide +kernel
theorem dX4_lives_23 : decode cX4_lives 23 = .ok (.iconst 2, 1) := by decide +kernel
theorem dX4_lives_24 : decode cX4_lives 24 = .ok (.if_icmp .ne 7, 3) := by decide +kernel
theorem dX4_lives_27 : decode cX4_lives 27 = .ok (.iconst 1, 1) := by decide +kernel
theorem dX4_lives_28 : decode cX4_lives 28 = .ok (.goto 4, 3) := by decide +kernel
theorem dX4_lives_31 : decode cX4_lives 31 = .ok (.iconst 0, 1) := by decide +kernel
theorem dX4_lives_32 : decode cX4_lives 32 = .ok (.ireturn, 1) := by decide +kernel
theorem dX4_load_0 : decode cX4_load 0 = .ok (.iload_n 1, 1) := by decide +kernel
theorem dX4_load_1 : decode cX4_load 1 = .ok (.iconst 1, 1) := by decide +kernel
theorem dX4_load_2 : decode cX4_load 2 = .ok (.if_icmp .lt 9, 3) := by decide +kernel
theorem dX4_load_5 : decode cX4_load 5 = .ok (.iload_n 1, 1) := by decide +kernel
theorem dX4_load_6 : decode cX4_load 6 = .ok (.bipush 64, 2) := by decide +kernel
theorem dX4_load_8 : decode cX4_load 8 = .ok (.if_icmp .le 6, 3) := by decide +kernel
theorem dX4_load_11 : decode cX4_load 11 = .ok (.bipush (-16), 2) := by decide +kernel
theorem dX4_load_13 : decode cX4_load 13 = .ok (.ireturn, 1) := by decide +kernel
theorem dX4_load_14 : decode cX4_load 14 = .ok (.aload_n 0, 1) := by decide +kernel
theorem dX4_load_15 : decode cX4_load 15 = .ok (.invokevirtual 71, 3) := by decide +kernel
theorem dX4_load_18 : decode cX4_load 18 = .ok (.istore_n 2, 1) := by decide +kernel
theorem dX4_load_19 : decode cX4_load 19 = .ok (.iload_n 2, 1) := by decide +kernel
theorem dX4_load_20 : decode cX4_load 20 = .ok (.iconst (-1), 1) := by decide +kernel
theorem dX4_load_21 : decode cX4_load 21 = .ok (.if_icmp .ne 6, 3) := by decide +kernel
theorem dX4_load_24 : decode cX4_load 24 = .ok (.bipush (-15), 2) := by decide +kernel
theorem dX4_load_26 : decode cX4_load 26 = .ok (.ireturn, 1) := by decide +kernel
theorem dX4_load_27 : decode cX4_load 27 = .ok (.iload_n 1, 1) := by decide +kernel
theorem dX4_load_28 : decode cX4_load 28 = .ok (.bipush 7, 2) := by decide +kernel
theorem dX4_load_30 : decode cX4_load 30 = .ok (.iadd, 1) := by decide +kernel
theorem dX4_load_31 : decode cX4_load 31 = .ok (.bipush 8, 2) := by decide +kernel
theorem dX4_load_33 : decode cX4_load 33 = .ok (.idiv, 1) := by decide +kernel
theorem dX4_load_34 : decode cX4_load 34 = .ok (.istore_n 3, 1) := by decide +kernel
theorem dX4_load_35 : decode cX4_load 35 = .ok (.aload_n 0, 1) := by decide +kernel
theorem dX4_load_36 : decode cX4_load 36 = .ok (.invokevirtual 50, 3) := by decide +kernel
theorem dX4_load_39 : decode cX4_load 39 = .ok (.iload_n 3, 1) := by decide +kernel
theorem dX4_load_40 : decode cX4_load 40 = .ok (.iadd, 1) := by decide +kernel
theorem dX4_load_41 : decode cX4_load 41 = .ok (.aload_n 0, 1) := by decide +kernel
theorem dX4_load_42 : decode cX4_load 42 = .ok (.getfield 44, 3) := by decide +kernel
theorem dX4_load_45 : decode cX4_load 45 = .ok (.if_icmp .le 6, 3) := by decide +kernel
theorem dX4_load_48 : decode cX4_load 48 = .ok (.bipush (-13), 2) := by decide +kernel
theorem dX4_load_50 : decode cX4_load 50 = .ok (.ireturn, 1) := by decide +kernel
theorem dX4_load_51 : decode cX4_load 51 = .ok (.aload_n 0, 1) := by decide +kernel
theorem dX4_load_52 : decode cX4_load 52 = .ok (.getfield 13, 3) := by decide +kernel
theorem dX4_load_55 : decode cX4_load 55 = .ok (.iload_n 2, 1) := by decide +kernel
theorem dX4_load_56 : decode cX4_load 56 = .ok (.iconst 1, 1) := by decide +kernel
theorem dX4_load_57 : decode cX4_load 57 = .ok (.iastore, 1) := by decide +kernel
theorem dX4_load_58 : decode cX4_load 58 = .ok (.aload_n 0, 1) := by decide +kernel
theorem dX4_load_59 : decode cX4_load 59 = .ok (.getfield 16, 3) := by decide +kernel
theorem dX4_load_62 : decode cX4_load 62 = .ok (.iload_n 2, 1) := by decide +kernel
theorem dX4_load_63 : decode cX4_load 63 = .ok (.iconst (-1), 1) := by decide +kernel
theorem dX4_load_64 : decode cX4_load 64 = .ok (.iastore, 1) := by decide +kernel
theorem dX4_load_65 : decode cX4_load 65 = .ok (.aload_n 0, 1) := by decide +kernel
theorem dX4_load_66 : decode cX4_load 66 = .ok (.getfield 25, 3) := by decide +kernel
theorem dX4_load_69 : decode cX4_load 69 = .ok (.iload_n 2, 1) := by decide +kernel
theorem dX4_load_70 : decode cX4_load 70 = .ok (.iconst 0, 1) := by decide +kernel
theorem dX4_load_71 : decode cX4_load 71 = .ok (.iastore, 1) := by decide +kernel
theorem dX4_load_72 : decode cX4_load 72 = .ok (.aload_n 0, 1) := by decide +kernel
theorem dX4_load_73 : decode cX4_load 73 = .ok (.getfield 28, 3) := by decide +kernel
theorem dX4_load_76 : decode cX4_load 76 = .ok (.iload_n 2, 1) := by decide +kernel
theorem dX4_load_77 : decode cX4_load 77 = .ok (.iload_n 1, 1) := by decide +kernel
theorem dX4_load_78 : decode cX4_load 78 = .ok (.iastore, 1) := by decide +kernel
theorem dX4_load_79 : decode cX4_load 79 = .ok (.iconst 0, 1) := by decide +kernel
theorem dX4_load_80 : decode cX4_load 80 = .ok (.istore 4, 2) := by decide +kernel
theorem dX4_load_82 : decode cX4_load 82 = .ok (.iload 4, 2) := by decide +kernel
theorem dX4_load_84 : decode cX4_load 84 = .ok (.bipush 8, 2) := by decide +kernel
theorem dX4_load_86 : decode cX4_load 86 = .ok (.if_icmp .ge 22, 3) := by decide +kernel
theorem dX4_load_89 : decode cX4_load 89 = .ok (.aload_n 0, 1) := by decide +kernel
theorem dX4_load_90 : decode cX4_load 90 = .ok (.getfield 22, 3) := by decide +kernel
theorem dX4_load_93 : decode cX4_load 93 = .ok (.bipush 8, 2) := by decide +kernel
theorem dX4_load_95 : decode cX4_load 95 = .ok (.iload_n 2, 1) := by decide +kernel
theorem dX4_load_96 : decode cX4_load 96 = .ok (.imul, 1) := by decide +kernel
theorem dX4_load_97 : decode cX4_load 97 = .ok (.iload 4, 2) := by decide +kernel
theorem dX4_load_99 : decode cX4_load 99 = .ok (.iadd, 1) := by decide +kernel
theorem dX4_load_100 : decode cX4_load 100 = .ok (.iconst 0, 1) := by decide +kernel
theorem dX4_load_101 : decode cX4_load 101 = .ok (.iastore, 1) := by decide +kernel
theorem dX4_load_102 : decode cX4_load 102 = .ok (.iinc 4 1, 3) := by decide +kernel
theorem dX4_load_105 : decode cX4_load 105 = .ok (.goto (-23), 3) := by decide +kernel
theorem dX4_load_108 : decode cX4_load 108 = .ok (.iconst 0, 1) := by decide +kernel
theorem dX4_load_109 : decode cX4_load 109 = .ok (.istore 4, 2) := by decide +kernel
theorem dX4_load_111 : decode cX4_load 111 = .ok (.iload 4, 2) := by decide +kernel
theorem dX4_load_113 : decode cX4_load 113 = .ok (.bipush 64, 2) := by decide +kernel
theorem dX4_load_115 : decode cX4_load 115 = .ok (.if_icmp .ge 38, 3) := by decide +kernel
theorem dX4_load_118 : decode cX4_load 118 = .ok (.aload_n 0, 1) := by decide +kernel
theorem dX4_load_119 : decode cX4_load 119 = .ok (.getfield 31, 3) := by decide +kernel
theorem dX4_load_122 : decode cX4_load 122 = .ok (.bipush 64, 2) := by decide +kernel
theorem dX4_load_124 : decode cX4_load 124 = .ok (.iload_n 2, 1) := by decide +kernel
theorem dX4_load_125 : decode cX4_load 125 = .ok (.imul, 1) := by decide +kernel
theorem dX4_load_126 : decode cX4_load 126 = .ok (.iload 4, 2) := by decide +kernel
theorem dX4_load_128 : decode cX4_load 128 = .ok (.iadd, 1) := by decide +kernel
theorem dX4_load_129 : decode cX4_load 129 = .ok (.iload 4, 2) := by decide +kernel
theorem dX4_load_131 : decode cX4_load 131 = .ok (.iload_n 1, 1) := by decide +kernel
theorem dX4_load_132 : decode cX4_load 132 = .ok (.if_icmp .ge 13, 3) := by decide +kernel
theorem dX4_load_135 : decode cX4_load 135 = .ok (.aload_n 0, 1) := by decide +kernel
theorem dX4_load_136 : decode cX4_load 136 = .ok (.getfield 7, 3) := by decide +kernel
theorem dX4_load_139 : decode cX4_load 139 = .ok (.iload 4, 2) := by decide +kernel
theorem dX4_load_141 : decode cX4_load 141 = .ok (.iaload, 1) := by decide +kernel
theorem dX4_load_142 : decode cX4_load 142 = .ok (.goto 4, 3) := by decide +kernel
theorem dX4_load_145 : decode cX4_load 145 = .ok (.iconst 0, 1) := by decide +kernel
theorem dX4_load_146 : decode cX4_load 146 = .ok (.iastore, 1) := by decide +kernel
theorem dX4_load_147 : decode cX4_load 147 = .ok (.iinc 4 1, 3) := by decide +kernel
theorem dX4_load_150 : decode cX4_load 150 = .ok (.goto (-39), 3) := by decide +kernel
theorem dX4_load_153 : decode cX4_load 153 = .ok (.iconst 0, 1) := by decide +kernel
theorem dX4_load_154 : decode cX4_load 154 = .ok (.istore 4, 2) := by decide +kernel
theorem dX4_load_156 : decode cX4_load 156 = .ok (.iload 4, 2) := by decide +kernel
theorem dX4_load_158 : decode cX4_load 158 = .ok (.bipush 8, 2) := by decide +kernel
theorem dX4_load_160 : decode cX4_load 160 = .ok (.if_icmp .ge 45, 3) := by decide +kernel
theorem dX4_load_163 : decode cX4_load 163 = .ok (.aload_n 0, 1) := by decide +kernel
theorem dX4_load_164 : decode cX4_load 164 = .ok (.dup, 1) := by decide +kernel
theorem dX4_load_165 : decode cX4_load 165 = .ok (.getfield 57, 3) := by decide +kernel
theorem dX4_load_168 : decode cX4_load 168 = .ok (.iconst 1, 1) := by decide +kernel
theorem dX4_load_169 : decode cX4_load 169 = .ok (.iadd, 1) := by decide +kernel
theorem dX4_load_170 : decode cX4_load 170 = .ok (.putfield 57, 3) := by decide +kernel
theorem dX4_load_173 : decode cX4_load 173 = .ok (.aload_n 0, 1) := by decide +kernel
theorem dX4_load_174 : decode cX4_load 174 = .ok (.getfield 34, 3) := by decide +kernel
theorem dX4_load_177 : decode cX4_load 177 = .ok (.bipush 8, 2) := by decide +kernel
theorem dX4_load_179 : decode cX4_load 179 = .ok (.iload_n 2, 1) := by decide +kernel
theorem dX4_load_180 : decode cX4_load 180 = .ok (.imul, 1) := by decide +kernel
theorem dX4_load_181 : decode cX4_load 181 = .ok (.iload 4, 2) := by decide +kernel
theorem dX4_load_183 : decode cX4_load 183 = .ok (.iadd, 1) := by decide +kernel
theorem dX4_load_184 : decode cX4_load 184 = .ok (.iload 4, 2) := by decide +kernel
theorem dX4_load_186 : decode cX4_load 186 = .ok (.iload_n 3, 1) := by decide +kernel
theorem dX4_load_187 : decode cX4_load 187 = .ok (.if_icmp .ge 10, 3) := by decide +kernel
theorem dX4_load_190 : decode cX4_load 190 = .ok (.aload_n 0, 1) := by decide +kernel
theorem dX4_load_191 : decode cX4_load 191 = .ok (.getfield 57, 3) := by decide +kernel
theorem dX4_load_194 : decode cX4_load 194 = .ok (.goto 4, 3) := by decide +kernel
theorem dX4_load_197 : decode cX4_load 197 = .ok (.iconst 0, 1) := by decide +kernel
theorem dX4_load_198 : decode cX4_load 198 = .ok (.iastore, 1) := by decide +kernel
theorem dX4_load_199 : decode cX4_load 199 = .ok (.iinc 4 1, 3) := by decide +kernel
theorem dX4_load_202 : decode cX4_load 202 = .ok (.goto (-46), 3) := by decide +kernel
theorem dX4_load_205 : decode cX4_load 205 = .ok (.iload_n 2, 1) := by decide +kernel
theorem dX4_load_206 : decode cX4_load 206 = .ok (.ireturn, 1) := by decide +kernel
theorem dX4_parent_0 : decode cX4_parent 0 = .ok (.iload_n 1, 1) := by decide +kernel
theorem dX4_parent_1 : decode cX4_parent 1 = .ok (.invokestatic 68, 3) := by decide +kernel
theorem dX4_parent_4 : decode cX4_parent 4 = .ok (.ifCond .eq 21, 3) := by decide +kernel
theorem dX4_parent_7 : decode cX4_parent 7 = .ok (.aload_n 0, 1) := by decide +kernel
theorem dX4_parent_8 : decode cX4_parent 8 = .ok (.getfield 13, 3) := by decide +kernel
theorem dX4_parent_11 : decode cX4_parent 11 = .ok (.iload_n 1, 1) := by decide +kernel
theorem dX4_parent_12 : decode cX4_parent 12 = .ok (.iaload, 1) := by decide +kernel
theorem dX4_parent_13 : decode cX4_parent 13 = .ok (.ifCond .eq 12, 3) := by decide +kernel
theorem dX4_parent_16 : decode cX4_parent 16 = .ok (.aload_n 0, 1) := by decide +kernel
theorem dX4_parent_17 : decode cX4_parent 17 = .ok (.getfield 16, 3) := by decide +kernel
theorem dX4_parent_20 : decode cX4_parent 20 = .ok (.iload_n 1, 1) := by decide +kernel
theorem dX4_parent_21 : decode cX4_parent 21 = .ok (.iaload, 1) := by decide +kernel
theorem dX4_parent_22 : decode cX4_parent 22 = .ok (.goto 4, 3) := by decide +kernel
theorem dX4_parent_25 : decode cX4_parent 25 = .ok (.iconst (-1), 1) := by decide +kernel
theorem dX4_parent_26 : decode cX4_parent 26 = .ok (.ireturn, 1) := by decide +kernel
theorem dX4_peek_0 : decode cX4_peek 0 = .ok (.aload_n 0, 1) := by decide +kernel
theorem dX4_peek_1 : decode cX4_peek 1 = .ok (.iload_n 1, 1) := by decide +kernel
theorem dX4_peek_2 : decode cX4_peek 2 = .ok (.invokevirtual 78, 3) := by decide +kernel
theorem dX4_peek_5 : decode cX4_peek 5 = .ok (.ifCond .eq 31, 3) := by decide +kernel
theorem dX4_peek_8 : decode cX4_peek 8 = .ok (.iload_n 2, 1) := by decide +kernel
theorem dX4_peek_9 : decode cX4_peek 9 = .ok (.ifCond .lt 27, 3) := by decide +kernel
theorem dX4_peek_12 : decode cX4_peek 12 = .ok (.iload_n 2, 1) := by decide +kernel
theorem dX4_peek_13 : decode cX4_peek 13 = .ok (.aload_n 0, 1) := by decide +kernel
theorem dX4_peek_14 : decode cX4_peek 14 = .ok (.getfield 28, 3) := by decide +kernel
theorem dX4_peek_17 : decode cX4_peek 17 = .ok (.iload_n 1, 1) := by decide +kernel
theorem dX4_peek_18 : decode cX4_peek 18 = .ok (.iaload, 1) := by decide +kernel
theorem dX4_peek_19 : decode cX4_peek 19 = .ok (.if_icmp .ge 17, 3) := by decide +kernel
theorem dX4_peek_22 : decode cX4_peek 22 = .ok (.aload_n 0, 1) := by decide +kernel
theorem dX4_peek_23 : decode cX4_peek 23 = .ok (.getfield 31, 3) := by decide +kernel
theorem dX4_peek_26 : decode cX4_peek 26 = .ok (.bipush 64, 2) := by decide +kernel
theorem dX4_peek_28 : decode cX4_peek 28 = .ok (.iload_n 1, 1) := by decide +kernel
theorem dX4_peek_29 : decode cX4_peek 29 = .ok (.imul, 1) := by decide +kernel
theorem dX4_peek_30 : decode cX4_peek 30 = .ok (.iload_n 2, 1) := by decide +kernel
theorem dX4_peek_31 : decode cX4_peek 31 = .ok (.iadd, 1) := by decide +kernel
theorem dX4_peek_32 : decode cX4_peek 32 = .ok (.iaload, 1) := by decide +kernel
theorem dX4_peek_33 : decode cX4_peek 33 = .ok (.goto 4, 3) := by decide +kernel
theorem dX4_peek_36 : decode cX4_peek 36 = .ok (.iconst 0, 1) := by decide +kernel
theorem dX4_peek_37 : decode cX4_peek 37 = .ok (.ireturn, 1) := by decide +kernel
theorem dX4_perform_0 : decode cX4_perform 0 = .ok (.iload_n 2, 1) := by decide +kernel
theorem dX4_perform_1 : decode cX4_perform 1 = .ok (.bipush 15, 2) := by decide +kernel
theorem dX4_perform_3 : decode cX4_perform 3 = .ok (.iand, 1) := by decide +kernel
theorem dX4_perform_4 : decode cX4_perform 4 = .ok (.istore_n 3, 1) := by decide +kernel
theorem dX4_perform_5 : decode cX4_perform 5 = .ok (.iload_n 2, 1) := by decide +kernel
theorem dX4_perform_6 : decode cX4_perform 6 = .ok (.iconst 4, 1) := by decide +kernel
theorem dX4_perform_7 : decode cX4_perform 7 = .ok (.ishr, 1) := by decide +kernel
theorem dX4_perform_8 : decode cX4_perform 8 = .ok (.bipush 7, 2) := by decide +kernel
theorem dX4_perform_10 : decode cX4_perform 10 = .ok (.iand, 1) := by decide +kernel
theorem dX4_perform_11 : decode cX4_perform 11 = .ok (.istore 4, 2) := by decide +kernel
theorem dX4_perform_13 : decode cX4_perform 13 = .ok (.iload_n 2, 1) := by decide +kernel
theorem dX4_perform_14 : decode cX4_perform 14 = .ok (.bipush 7, 2) := by decide +kernel
theorem dX4_perform_16 : decode cX4_perform 16 = .ok (.ishr, 1) := by decide +kernel
theorem dX4_perform_17 : decode cX4_perform 17 = .ok (.bipush 7, 2) := by decide +kernel
theorem dX4_perform_19 : decode cX4_perform 19 = .ok (.iand, 1) := by decide +kernel
theorem dX4_perform_20 : decode cX4_perform 20 = .ok (.istore 5, 2) := by decide +kernel
theorem dX4_perform_22 : decode cX4_perform 22 = .ok (.iload_n 2, 1) := by decide +kernel
theorem dX4_perform_23 : decode cX4_perform 23 = .ok (.bipush 10, 2) := by decide +kernel
theorem dX4_perform_25 : decode cX4_perform 25 = .ok (.ishr, 1) := by decide +kernel
theorem dX4_perform_26 : decode cX4_perform 26 = .ok (.istore 6, 2) := by decide +kernel
theorem dX4_perform_28 : decode cX4_perform 28 = .ok (.iload_n 3, 1) := by decide +kernel
theorem dX4_perform_29 : decode cX4_perform 29 = .ok (.bipush 8, 2) := by decide +kernel
theorem dX4_perform_31 : decode cX4_perform 31 = .ok (.if_icmp .ge 16, 3) := by decide +kernel
theorem dX4_perform_34 : decode cX4_perform 34 = .ok (.aload_n 0, 1) := by decide +kernel
theorem dX4_perform_35 : decode cX4_perform 35 = .ok (.iload_n 1, 1) := by decide +kernel
theorem dX4_perform_36 : decode cX4_perform 36 = .ok (.iload_n 3, 1) := by decide +kernel
theorem dX4_perform_37 : decode cX4_perform 37 = .ok (.iload 4, 2) := by decide +kernel
theorem dX4_perform_39 : decode cX4_perform 39 = .ok (.iload 5, 2) := by decide +kernel
theorem dX4_perform_41 : decode cX4_perform 41 = .ok (.iload 6, 2) := by decide +kernel
theorem dX4_perform_43 : decode cX4_perform 43 = .ok (.invokevirtual 98, 3) := by decide +kernel
theorem dX4_perform_46 : decode cX4_perform 46 = .ok (.ireturn, 1) := by decide +kernel
theorem dX4_perform_47 : decode cX4_perform 47 = .ok (.iload_n 3, 1) := by decide +kernel
theorem dX4_perform_48 : decode cX4_perform 48 = .ok (.bipush 8, 2) := by decide +kernel
theorem dX4_perform_50 : decode cX4_perform 50 = .ok (.if_icmp .ne 11, 3) := by decide +kernel
theorem dX4_perform_53 : decode cX4_perform 53 = .ok (.aload_n 0, 1) := by decide +kernel
theorem dX4_perform_54 : decode cX4_perform 54 = .ok (.iload_n 1, 1) := by decide +kernel
theorem dX4_perform_55 : decode cX4_perform 55 = .ok (.iload 4, 2) := by decide +kernel
theorem dX4_perform_57 : decode cX4_perform 57 = .ok (.invokevirtual 102, 3) := by decide +kernel
theorem dX4_perform_60 : decode cX4_perform 60 = .ok (.ireturn, 1) := by decide +kernel
theorem dX4_perform_61 : decode cX4_perform 61 = .ok (.iload_n 3, 1) := by decide +kernel
theorem dX4_perform_62 : decode cX4_perform 62 = .ok (.bipush 9, 2) := by decide +kernel
theorem dX4_perform_64 : decode cX4_perform 64 = .ok (.if_icmp .ne 12, 3) := by decide +kernel
theorem dX4_perform_67 : decode cX4_perform 67 = .ok (.aload_n 0, 1) := by decide +kernel
theorem dX4_perform_68 : decode cX4_perform 68 = .ok (.iload_n 1, 1) := by decide +kernel
theorem dX4_perform_69 : decode cX4_perform 69 = .ok (.iload 4, 2) := by decide +kernel
theorem dX4_perform_71 : decode cX4_perform 71 = .ok (.iload 6, 2) := by decide +kernel
theorem dX4_perform_73 : decode cX4_perform 73 = .ok (.invokevirtual 106, 3) := by decide +kernel
theorem dX4_perform_76 : decode cX4_perform 76 = .ok (.iload_n 3, 1) := by decide +kernel
theorem dX4_perform_77 : decode cX4_perform 77 = .ok (.bipush 11, 2) := by decide +kernel
theorem dX4_perform_79 : decode cX4_perform 79 = .ok (.if_icmp .ne 11, 3) := by decide +kernel
theorem dX4_perform_82 : decode cX4_perform 82 = .ok (.aload_n 0, 1) := by decide +kernel
theorem dX4_perform_83 : decode cX4_perform 83 = .ok (.iload_n 1, 1) := by decide +kernel
theorem dX4_perform_84 : decode cX4_perform 84 = .ok (.iload 4, 2) := by decide +kernel
theorem dX4_perform_86 : decode cX4_perform 86 = .ok (.invokevirtual 110, 3) := by decide +kernel
theorem dX4_perform_89 : decode cX4_perform 89 = .ok (.ireturn, 1) := by decide +kernel
theorem dX4_perform_90 : decode cX4_perform 90 = .ok (.iload_n 3, 1) := by decide +kernel
theorem dX4_perform_91 : decode cX4_perform 91 = .ok (.bipush 12, 2) := by decide +kernel
theorem dX4_perform_93 : decode cX4_perform 93 = .ok (.if_icmp .ne 11, 3) := by decide +kernel
theorem dX4_perform_96 : decode cX4_perform 96 = .ok (.aload_n 0, 1) := by decide +kernel
theorem dX4_perform_97 : decode cX4_perform 97 = .ok (.aload_n 0, 1) := by decide +kernel
theorem dX4_perform_98 : decode cX4_perform 98 = .ok (.getfield 47, 3) := by decide +kernel
theorem dX4_perform_101 : decode cX4_perform 101 = .ok (.putfield 88, 3) := by decide +kernel
theorem dX4_perform_104 : decode cX4_perform 104 = .ok (.iload_n 3, 1) := by decide +kernel
theorem dX4_perform_105 : decode cX4_perform 105 = .ok (.bipush 13, 2) := by decide +kernel
theorem dX4_perform_107 : decode cX4_perform 107 = .ok (.if_icmp .ne 16, 3) := by decide +kernel
theorem dX4_perform_110 : decode cX4_perform 110 = .ok (.aload_n 0, 1) := by decide +kernel
theorem dX4_perform_111 : decode cX4_perform 111 = .ok (.getfield 22, 3) := by decide +kernel
theorem dX4_perform_114 : decode cX4_perform 114 = .ok (.bipush 8, 2) := by decide +kernel
theorem dX4_perform_116 : decode cX4_perform 116 = .ok (.iload_n 1, 1) := by decide +kernel
theorem dX4_perform_117 : decode cX4_perform 117 = .ok (.imul, 1) := by decide +kernel
theorem dX4_perform_118 : decode cX4_perform 118 = .ok (.iload 4, 2) := by decide +kernel
theorem dX4_perform_120 : decode cX4_perform 120 = .ok (.iadd, 1) := by decide +kernel
theorem dX4_perform_121 : decode cX4_perform 121 = .ok (.iload_n 1, 1) := by decide +kernel
theorem dX4_perform_122 : decode cX4_perform 122 = .ok (.iastore, 1) := by decide +kernel
theorem dX4_perform_123 : decode cX4_perform 123 = .ok (.iload_n 3, 1) := by decide +kernel
theorem dX4_perform_124 : decode cX4_perform 124 = .ok (.bipush 13, 2) := by decide +kernel
theorem dX4_perform_126 : decode cX4_perform 126 = .ok (.if_icmp .le 9, 3) := by decide +kernel
theorem dX4_perform_129 : decode cX4_perform 129 = .ok (.aload_n 0, 1) := by decide +kernel
theorem dX4_perform_130 : decode cX4_perform 130 = .ok (.bipush (-12), 2) := by decide +kernel
theorem dX4_perform_132 : decode cX4_perform 132 = .ok (.putfield 54, 3) := by decide +kernel
theorem dX4_perform_135 : decode cX4_perform 135 = .ok (.iload_n 3, 1) := by decide +kernel
theorem dX4_perform_136 : decode cX4_perform 136 = .ok (.bipush 10, 2) := by decide +kernel
theorem dX4_perform_138 : decode cX4_perform 138 = .ok (.if_icmp .ne 22, 3) := by decide +kernel
theorem dX4_perform_141 : decode cX4_perform 141 = .ok (.aload_n 0, 1) := by decide +kernel
theorem dX4_perform_142 : decode cX4_perform 142 = .ok (.iload_n 1, 1) := by decide +kernel
theorem dX4_perform_143 : decode cX4_perform 143 = .ok (.aload_n 0, 1) := by decide +kernel
theorem dX4_perform_144 : decode cX4_perform 144 = .ok (.getfield 22, 3) := by decide +kernel
theorem dX4_perform_147 : decode cX4_perform 147 = .ok (.bipush 8, 2) := by decide +kernel
theorem dX4_perform_149 : decode cX4_perform 149 = .ok (.iload_n 1, 1) := by decide +kernel
theorem dX4_perform_150 : decode cX4_perform 150 = .ok (.imul, 1) := by decide +kernel
theorem dX4_perform_151 : decode cX4_perform 151 = .ok (.iload 4, 2) := by decide +kernel
theorem dX4_perform_153 : decode cX4_perform 153 = .ok (.iadd, 1) := by decide +kernel
theorem dX4_perform_154 : decode cX4_perform 154 = .ok (.iaload, 1) := by decide +kernel
theorem dX4_perform_155 : decode cX4_perform 155 = .ok (.invokevirtual 81, 3) := by decide +kernel
theorem dX4_perform_158 : decode cX4_perform 158 = .ok (.iconst 5, 1) := by decide +kernel
theorem dX4_perform_159 : decode cX4_perform 159 = .ok (.ireturn, 1) := by decide +kernel
theorem dX4_perform_160 : decode cX4_perform 160 = .ok (.iconst 1, 1) := by decide +kernel
theorem dX4_perform_161 : decode cX4_perform 161 = .ok (.ireturn, 1) := by decide +kernel
theorem dX4_print_0 : decode cX4_print 0 = .ok (.iload_n 1, 1) := by decide +kernel
theorem dX4_print_1 : decode cX4_print 1 = .ok (.ifCond .lt 36, 3) := by decide +kernel
theorem dX4_print_4 : decode cX4_print 4 = .ok (.iload_n 1, 1) := by decide +kernel
theorem dX4_print_5 : decode cX4_print 5 = .ok (.bipush 32, 2) := by decide +kernel
theorem dX4_print_7 : decode cX4_print 7 = .ok (.if_icmp .ge 30, 3) := by decide +kernel
theorem dX4_print_10 : decode cX4_print 10 = .ok (.iload_n 1, 1) := by decide +kernel
theorem dX4_print_11 : decode cX4_print 11 = .ok (.aload_n 0, 1) := by decide +kernel
theorem dX4_print_12 : decode cX4_print 12 = .ok (.getfield 95, 3) := by decide +kernel
theorem dX4_print_15 : decode cX4_print 15 = .ok (.if_icmp .ge 22, 3) := by decide +kernel
theorem dX4_print_18 : decode cX4_print 18 = .ok (.aload_n 0, 1) := by decide +kernel
theorem dX4_print_19 : decode cX4_print 19 = .ok (.getfield 41, 3) := by decide +kernel
theorem dX4_print_22 : decode cX4_print 22 = .ok (.aload_n 0, 1) := by decide +kernel
theorem dX4_print_23 : decode cX4_print 23 = .ok (.getfield 95, 3) := by decide +kernel
theorem dX4_print_26 : decode cX4_print 26 = .ok (.iconst 1, 1) := by decide +kernel
theorem dX4_print_27 : decode cX4_print 27 = .ok (.isub, 1) := by decide +kernel
theorem dX4_print_28 : decode cX4_print 28 = .ok (.iload_n 1, 1) := by decide +kernel
theorem dX4_print_29 : decode cX4_print 29 = .ok (.isub, 1) := by decide +kernel
theorem dX4_print_30 : decode cX4_print 30 = .ok (.bipush 32, 2) := by decide +kernel
theorem dX4_print_32 : decode cX4_print 32 = .ok (.irem, 1) := by decide +kernel
theorem dX4_print_33 : decode cX4_print 33 = .ok (.iaload, 1) := by decide +kernel
theorem dX4_print_34 : decode cX4_print 34 = .ok (.goto 4, 3) := by decide +kernel
theorem dX4_print_37 : decode cX4_print 37 = .ok (.iconst 0, 1) := by decide +kernel
theorem dX4_print_38 : decode cX4_print 38 = .ok (.ireturn, 1) := by decide +kernel
theorem dX4_printed_0 : decode cX4_printed 0 = .ok (.aload_n 0, 1) := by decide +kernel
theorem dX4_printed_1 : decode cX4_printed 1 = .ok (.getfield 95, 3) := by decide +kernel
theorem dX4_printed_4 : decode cX4_printed 4 = .ok (.ireturn, 1) := by decide +kernel

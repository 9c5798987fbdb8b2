theorem d_CM_place_0 : decode b_CM_place 0 = .ok (.sipush 256, 3) := by decide +kernel
theorem d_CM_place_3 : decode b_CM_place 3 = .ok (.iload_n 0, 1) := by decide +kernel
theorem d_CM_place_4 : decode b_CM_place 4 = .ok (.imul, 1) := by decide +kernel
theorem d_CM_place_5 : decode b_CM_place 5 = .ok (.iconst 4, 1) := by decide +kernel
theorem d_CM_place_6 : decode b_CM_place 6 = .ok (.iload_n 1, 1) := by decide +kernel
theorem d_CM_place_7 : decode b_CM_place 7 = .ok (.imul, 1) := by decide +kernel
theorem d_CM_place_8 : decode b_CM_place 8 = .ok (.iadd, 1) := by decide +kernel
theorem d_CM_place_9 : decode b_CM_place 9 = .ok (.iload_n 2, 1) := by decide +kernel
theorem d_CM_place_10 : decode b_CM_place 10 = .ok (.iadd, 1) := by decide +kernel
theorem d_CM_place_11 : decode b_CM_place 11 = .ok (.ireturn, 1) := by decide +kernel
theorem d_CM_push_0 : decode b_CM_push 0 = .ok (.bipush 80, 2) := by decide +kernel
theorem d_CM_push_2 : decode b_CM_push 2 = .ok (.iload_n 1, 1) := by decide +kernel
theorem d_CM_push_3 : decode b_CM_push 3 = .ok (.imul, 1) := by decide +kernel
theorem d_CM_push_4 : decode b_CM_push 4 = .ok (.aload_n 0, 1) := by decide +kernel
theorem d_CM_push_5 : decode b_CM_push 5 = .ok (.getfield 32, 3) := by decide +kernel
theorem d_CM_push_8 : decode b_CM_push 8 = .ok (.iload_n 1, 1) := by decide +kernel
theorem d_CM_push_9 : decode b_CM_push 9 = .ok (.iaload, 1) := by decide +kernel
theorem d_CM_push_10 : decode b_CM_push 10 = .ok (.iadd, 1) := by decide +kernel
theorem d_CM_push_11 : decode b_CM_push 11 = .ok (.istore 6, 2) := by decide +kernel
theorem d_CM_push_13 : decode b_CM_push 13 = .ok (.aload_n 0, 1) := by decide +kernel
theorem d_CM_push_14 : decode b_CM_push 14 = .ok (.getfield 23, 3) := by decide +kernel
theorem d_CM_push_17 : decode b_CM_push 17 = .ok (.iload 6, 2) := by decide +kernel
theorem d_CM_push_19 : decode b_CM_push 19 = .ok (.iload_n 2, 1) := by decide +kernel
theorem d_CM_push_20 : decode b_CM_push 20 = .ok (.iastore, 1) := by decide +kernel
theorem d_CM_push_21 : decode b_CM_push 21 = .ok (.aload_n 0, 1) := by decide +kernel
theorem d_CM_push_22 : decode b_CM_push 22 = .ok (.getfield 26, 3) := by decide +kernel
theorem d_CM_push_25 : decode b_CM_push 25 = .ok (.iload 6, 2) := by decide +kernel
theorem d_CM_push_27 : decode b_CM_push 27 = .ok (.iload_n 3, 1) := by decide +kernel
theorem d_CM_push_28 : decode b_CM_push 28 = .ok (.iastore, 1) := by decide +kernel
theorem d_CM_push_29 : decode b_CM_push 29 = .ok (.aload_n 0, 1) := by decide +kernel
theorem d_CM_push_30 : decode b_CM_push 30 = .ok (.getfield 29, 3) := by decide +kernel
theorem d_CM_push_33 : decode b_CM_push 33 = .ok (.iload 6, 2) := by decide +kernel
theorem d_CM_push_35 : decode b_CM_push 35 = .ok (.lload 4, 2) := by decide +kernel
theorem d_CM_push_37 : decode b_CM_push 37 = .ok (.lastore, 1) := by decide +kernel
theorem d_CM_push_38 : decode b_CM_push 38 = .ok (.aload_n 0, 1) := by decide +kernel
theorem d_CM_push_39 : decode b_CM_push 39 = .ok (.getfield 32, 3) := by decide +kernel
theorem d_CM_push_42 : decode b_CM_push 42 = .ok (.iload_n 1, 1) := by decide +kernel
theorem d_CM_push_43 : decode b_CM_push 43 = .ok (.dup2, 1) := by decide +kernel
theorem d_CM_push_44 : decode b_CM_push 44 = .ok (.iaload, 1) := by decide +kernel
theorem d_CM_push_45 : decode b_CM_push 45 = .ok (.iconst 1, 1) := by decide +kernel
theorem d_CM_push_46 : decode b_CM_push 46 = .ok (.iadd, 1) := by decide +kernel
theorem d_CM_push_47 : decode b_CM_push 47 = .ok (.iastore, 1) := by decide +kernel
theorem d_CM_push_48 : decode b_CM_push 48 = .ok (.return_, 1) := by decide +kernel
theorem d_CM_find_0 : decode b_CM_find 0 = .ok (.iconst 0, 1) := by decide +kernel
theorem d_CM_find_1 : decode b_CM_find 1 = .ok (.istore_n 3, 1) := by decide +kernel
theorem d_CM_find_2 : decode b_CM_find 2 = .ok (.iload_n 3, 1) := by decide +kernel
theorem d_CM_find_3 : decode b_CM_find 3 = .ok (.aload_n 0, 1) := by decide +kernel
theorem d_CM_find_4 : decode b_CM_find 4 = .ok (.getfield 32, 3) := by decide +kernel
theorem d_CM_find_7 : decode b_CM_find 7 = .ok (.iload_n 1, 1) := by decide +kernel
theorem d_CM_find_8 : decode b_CM_find 8 = .ok (.iaload, 1) := by decide +kernel
theorem d_CM_find_9 : decode b_CM_find 9 = .ok (.if_icmp .ge 31, 3) := by decide +kernel
theorem d_CM_find_12 : decode b_CM_find 12 = .ok (.aload_n 0, 1) := by decide +kernel
theorem d_CM_find_13 : decode b_CM_find 13 = .ok (.getfield 23, 3) := by decide +kernel
theorem d_CM_find_16 : decode b_CM_find 16 = .ok (.bipush 80, 2) := by decide +kernel
theorem d_CM_find_18 : decode b_CM_find 18 = .ok (.iload_n 1, 1) := by decide +kernel
theorem d_CM_find_19 : decode b_CM_find 19 = .ok (.imul, 1) := by decide +kernel
theorem d_CM_find_20 : decode b_CM_find 20 = .ok (.iload_n 3, 1) := by decide +kernel
theorem d_CM_find_21 : decode b_CM_find 21 = .ok (.iadd, 1) := by decide +kernel
theorem d_CM_find_22 : decode b_CM_find 22 = .ok (.iaload, 1) := by decide +kernel
theorem d_CM_find_23 : decode b_CM_find 23 = .ok (.iload_n 2, 1) := by decide +kernel
theorem d_CM_find_24 : decode b_CM_find 24 = .ok (.if_icmp .ne 10, 3) := by decide +kernel
theorem d_CM_find_27 : decode b_CM_find 27 = .ok (.bipush 80, 2) := by decide +kernel
theorem d_CM_find_29 : decode b_CM_find 29 = .ok (.iload_n 1, 1) := by decide +kernel
theorem d_CM_find_30 : decode b_CM_find 30 = .ok (.imul, 1) := by decide +kernel
theorem d_CM_find_31 : decode b_CM_find 31 = .ok (.iload_n 3, 1) := by decide +kernel
theorem d_CM_find_32 : decode b_CM_find 32 = .ok (.iadd, 1) := by decide +kernel
theorem d_CM_find_33 : decode b_CM_find 33 = .ok (.ireturn, 1) := by decide +kernel
theorem d_CM_find_34 : decode b_CM_find 34 = .ok (.iinc 3 1, 3) := by decide +kernel
theorem d_CM_find_37 : decode b_CM_find 37 = .ok (.goto (-35), 3) := by decide +kernel
theorem d_CM_find_40 : decode b_CM_find 40 = .ok (.iconst (-1), 1) := by decide +kernel
theorem d_CM_find_41 : decode b_CM_find 41 = .ok (.ireturn, 1) := by decide +kernel
theorem d_CM_fill_0 : decode b_CM_fill 0 = .ok (.aload_n 0, 1) := by decide +kernel
theorem d_CM_fill_1 : decode b_CM_fill 1 = .ok (.iload_n 1, 1) := by decide +kernel
theorem d_CM_fill_2 : decode b_CM_fill 2 = .ok (.invokevirtual 89, 3) := by decide +kernel
theorem d_CM_fill_5 : decode b_CM_fill 5 = .ok (.istore_n 3, 1) := by decide +kernel
theorem d_CM_fill_6 : decode b_CM_fill 6 = .ok (.iconst 0, 1) := by decide +kernel
theorem d_CM_fill_7 : decode b_CM_fill 7 = .ok (.istore 4, 2) := by decide +kernel
theorem d_CM_fill_9 : decode b_CM_fill 9 = .ok (.iload 4, 2) := by decide +kernel
theorem d_CM_fill_11 : decode b_CM_fill 11 = .ok (.iload_n 3, 1) := by decide +kernel
theorem d_CM_fill_12 : decode b_CM_fill 12 = .ok (.if_icmp .gt 164, 3) := by decide +kernel
theorem d_CM_fill_15 : decode b_CM_fill 15 = .ok (.aload_n 0, 1) := by decide +kernel
theorem d_CM_fill_16 : decode b_CM_fill 16 = .ok (.iload_n 1, 1) := by decide +kernel
theorem d_CM_fill_17 : decode b_CM_fill 17 = .ok (.invokevirtual 82, 3) := by decide +kernel
theorem d_CM_fill_20 : decode b_CM_fill 20 = .ok (.iload_n 2, 1) := by decide +kernel
theorem d_CM_fill_21 : decode b_CM_fill 21 = .ok (.iadd, 1) := by decide +kernel
theorem d_CM_fill_22 : decode b_CM_fill 22 = .ok (.iload 4, 2) := by decide +kernel
theorem d_CM_fill_24 : decode b_CM_fill 24 = .ok (.ishr, 1) := by decide +kernel
theorem d_CM_fill_25 : decode b_CM_fill 25 = .ok (.istore 5, 2) := by decide +kernel
theorem d_CM_fill_27 : decode b_CM_fill 27 = .ok (.iconst 0, 1) := by decide +kernel
theorem d_CM_fill_28 : decode b_CM_fill 28 = .ok (.istore 6, 2) := by decide +kernel
theorem d_CM_fill_30 : decode b_CM_fill 30 = .ok (.iconst 0, 1) := by decide +kernel
theorem d_CM_fill_31 : decode b_CM_fill 31 = .ok (.istore 7, 2) := by decide +kernel
theorem d_CM_fill_33 : decode b_CM_fill 33 = .ok (.iload 7, 2) := by decide +kernel
theorem d_CM_fill_35 : decode b_CM_fill 35 = .ok (.aload_n 0, 1) := by decide +kernel
theorem d_CM_fill_36 : decode b_CM_fill 36 = .ok (.getfield 32, 3) := by decide +kernel
theorem d_CM_fill_39 : decode b_CM_fill 39 = .ok (.iload_n 1, 1) := by decide +kernel
theorem d_CM_fill_40 : decode b_CM_fill 40 = .ok (.iaload, 1) := by decide +kernel
theorem d_CM_fill_41 : decode b_CM_fill 41 = .ok (.if_icmp .ge 113, 3) := by decide +kernel
theorem d_CM_fill_44 : decode b_CM_fill 44 = .ok (.iload 6, 2) := by decide +kernel
theorem d_CM_fill_46 : decode b_CM_fill 46 = .ok (.aload_n 0, 1) := by decide +kernel
theorem d_CM_fill_47 : decode b_CM_fill 47 = .ok (.getfield 72, 3) := by decide +kernel
theorem d_CM_fill_50 : decode b_CM_fill 50 = .ok (.if_icmp .ge 104, 3) := by decide +kernel
theorem d_CM_fill_53 : decode b_CM_fill 53 = .ok (.bipush 80, 2) := by decide +kernel
theorem d_CM_fill_55 : decode b_CM_fill 55 = .ok (.iload_n 1, 1) := by decide +kernel
theorem d_CM_fill_56 : decode b_CM_fill 56 = .ok (.imul, 1) := by decide +kernel
theorem d_CM_fill_57 : decode b_CM_fill 57 = .ok (.iload 7, 2) := by decide +kernel
theorem d_CM_fill_59 : decode b_CM_fill 59 = .ok (.iadd, 1) := by decide +kernel
theorem d_CM_fill_60 : decode b_CM_fill 60 = .ok (.istore 8, 2) := by decide +kernel
theorem d_CM_fill_62 : decode b_CM_fill 62 = .ok (.aload_n 0, 1) := by decide +kernel
theorem d_CM_fill_63 : decode b_CM_fill 63 = .ok (.iload_n 1, 1) := by decide +kernel
theorem d_CM_fill_64 : decode b_CM_fill 64 = .ok (.invokevirtual 82, 3) := by decide +kernel
theorem d_CM_fill_67 : decode b_CM_fill 67 = .ok (.aload_n 0, 1) := by decide +kernel
theorem d_CM_fill_68 : decode b_CM_fill 68 = .ok (.getfield 26, 3) := by decide +kernel
theorem d_CM_fill_71 : decode b_CM_fill 71 = .ok (.iload 8, 2) := by decide +kernel
theorem d_CM_fill_73 : decode b_CM_fill 73 = .ok (.iaload, 1) := by decide +kernel
theorem d_CM_fill_74 : decode b_CM_fill 74 = .ok (.iadd, 1) := by decide +kernel
theorem d_CM_fill_75 : decode b_CM_fill 75 = .ok (.iload 4, 2) := by decide +kernel
theorem d_CM_fill_77 : decode b_CM_fill 77 = .ok (.ishr, 1) := by decide +kernel
theorem d_CM_fill_78 : decode b_CM_fill 78 = .ok (.iload 5, 2) := by decide +kernel
theorem d_CM_fill_80 : decode b_CM_fill 80 = .ok (.if_icmp .ne 68, 3) := by decide +kernel
theorem d_CM_fill_83 : decode b_CM_fill 83 = .ok (.iload_n 1, 1) := by decide +kernel
theorem d_CM_fill_84 : decode b_CM_fill 84 = .ok (.iload 5, 2) := by decide +kernel
theorem d_CM_fill_86 : decode b_CM_fill 86 = .ok (.iload 6, 2) := by decide +kernel
theorem d_CM_fill_88 : decode b_CM_fill 88 = .ok (.invokestatic 92, 3) := by decide +kernel
theorem d_CM_fill_91 : decode b_CM_fill 91 = .ok (.istore 9, 2) := by decide +kernel
theorem d_CM_fill_93 : decode b_CM_fill 93 = .ok (.aload_n 0, 1) := by decide +kernel
theorem d_CM_fill_94 : decode b_CM_fill 94 = .ok (.getfield 7, 3) := by decide +kernel
theorem d_CM_fill_97 : decode b_CM_fill 97 = .ok (.iload 9, 2) := by decide +kernel
theorem d_CM_fill_99 : decode b_CM_fill 99 = .ok (.aload_n 0, 1) := by decide +kernel
theorem d_CM_fill_100 : decode b_CM_fill 100 = .ok (.getfield 23, 3) := by decide +kernel
theorem d_CM_fill_103 : decode b_CM_fill 103 = .ok (.iload 8, 2) := by decide +kernel
theorem d_CM_fill_105 : decode b_CM_fill 105 = .ok (.iaload, 1) := by decide +kernel
theorem d_CM_fill_106 : decode b_CM_fill 106 = .ok (.iastore, 1) := by decide +kernel
theorem d_CM_fill_107 : decode b_CM_fill 107 = .ok (.aload_n 0, 1) := by decide +kernel
theorem d_CM_fill_108 : decode b_CM_fill 108 = .ok (.getfield 13, 3) := by decide +kernel
theorem d_CM_fill_111 : decode b_CM_fill 111 = .ok (.iload 9, 2) := by decide +kernel
theorem d_CM_fill_113 : decode b_CM_fill 113 = .ok (.aload_n 0, 1) := by decide +kernel
theorem d_CM_fill_114 : decode b_CM_fill 114 = .ok (.getfield 26, 3) := by decide +kernel
theorem d_CM_fill_117 : decode b_CM_fill 117 = .ok (.iload 8, 2) := by decide +kernel
theorem d_CM_fill_119 : decode b_CM_fill 119 = .ok (.iaload, 1) := by decide +kernel
theorem d_CM_fill_120 : decode b_CM_fill 120 = .ok (.iastore, 1) := by decide +kernel
theorem d_CM_fill_121 : decode b_CM_fill 121 = .ok (.aload_n 0, 1) := by decide +kernel
theorem d_CM_fill_122 : decode b_CM_fill 122 = .ok (.getfield 16, 3) := by decide +kernel
theorem d_CM_fill_125 : decode b_CM_fill 125 = .ok (.iload 9, 2) := by decide +kernel
theorem d_CM_fill_127 : decode b_CM_fill 127 = .ok (.aload_n 0, 1) := by decide +kernel
theorem d_CM_fill_128 : decode b_CM_fill 128 = .ok (.getfield 29, 3) := by decide +kernel
theorem d_CM_fill_131 : decode b_CM_fill 131 = .ok (.iload 8, 2) := by decide +kernel
theorem d_CM_fill_133 : decode b_CM_fill 133 = .ok (.laload, 1) := by decide +kernel
theorem d_CM_fill_134 : decode b_CM_fill 134 = .ok (.lastore, 1) := by decide +kernel
theorem d_CM_fill_135 : decode b_CM_fill 135 = .ok (.aload_n 0, 1) := by decide +kernel
theorem d_CM_fill_136 : decode b_CM_fill 136 = .ok (.iload_n 1, 1) := by decide +kernel
theorem d_CM_fill_137 : decode b_CM_fill 137 = .ok (.iload 7, 2) := by decide +kernel
theorem d_CM_fill_139 : decode b_CM_fill 139 = .ok (.invokevirtual 104, 3) := by decide +kernel
theorem d_CM_fill_142 : decode b_CM_fill 142 = .ok (.iinc 6 1, 3) := by decide +kernel
theorem d_CM_fill_145 : decode b_CM_fill 145 = .ok (.goto 6, 3) := by decide +kernel
theorem d_CM_fill_148 : decode b_CM_fill 148 = .ok (.iinc 7 1, 3) := by decide +kernel
theorem d_CM_fill_151 : decode b_CM_fill 151 = .ok (.goto (-118), 3) := by decide +kernel
theorem d_CM_fill_154 : decode b_CM_fill 154 = .ok (.aload_n 0, 1) := by decide +kernel
theorem d_CM_fill_155 : decode b_CM_fill 155 = .ok (.getfield 20, 3) := by decide +kernel
theorem d_CM_fill_158 : decode b_CM_fill 158 = .ok (.bipush 64, 2) := by decide +kernel
theorem d_CM_fill_160 : decode b_CM_fill 160 = .ok (.iload_n 1, 1) := by decide +kernel
theorem d_CM_fill_161 : decode b_CM_fill 161 = .ok (.imul, 1) := by decide +kernel
theorem d_CM_fill_162 : decode b_CM_fill 162 = .ok (.iload 5, 2) := by decide +kernel
theorem d_CM_fill_164 : decode b_CM_fill 164 = .ok (.iadd, 1) := by decide +kernel
theorem d_CM_fill_165 : decode b_CM_fill 165 = .ok (.dup2, 1) := by decide +kernel
theorem d_CM_fill_166 : decode b_CM_fill 166 = .ok (.iaload, 1) := by decide +kernel
theorem d_CM_fill_167 : decode b_CM_fill 167 = .ok (.iconst 1, 1) := by decide +kernel
theorem d_CM_fill_168 : decode b_CM_fill 168 = .ok (.iadd, 1) := by decide +kernel
theorem d_CM_fill_169 : decode b_CM_fill 169 = .ok (.iastore, 1) := by decide +kernel
theorem d_CM_fill_170 : decode b_CM_fill 170 = .ok (.iinc 4 1, 3) := by decide +kernel
theorem d_CM_fill_173 : decode b_CM_fill 173 = .ok (.goto (-164), 3) := by decide +kernel
theorem d_CM_fill_176 : decode b_CM_fill 176 = .ok (.aload_n 0, 1) := by decide +kernel
theorem d_CM_fill_177 : decode b_CM_fill 177 = .ok (.getfield 32, 3) := by decide +kernel
theorem d_CM_fill_180 : decode b_CM_fill 180 = .ok (.iload_n 1, 1) := by decide +kernel
theorem d_CM_fill_181 : decode b_CM_fill 181 = .ok (.iaload, 1) := by decide +kernel
theorem d_CM_fill_182 : decode b_CM_fill 182 = .ok (.aload_n 0, 1) := by decide +kernel
theorem d_CM_fill_183 : decode b_CM_fill 183 = .ok (.getfield 75, 3) := by decide +kernel
theorem d_CM_fill_186 : decode b_CM_fill 186 = .ok (.if_icmp .gt 7, 3) := by decide +kernel
theorem d_CM_fill_189 : decode b_CM_fill 189 = .ok (.iconst 1, 1) := by decide +kernel
theorem d_CM_fill_190 : decode b_CM_fill 190 = .ok (.goto 4, 3) := by decide +kernel
theorem d_CM_fill_193 : decode b_CM_fill 193 = .ok (.iconst 0, 1) := by decide +kernel
theorem d_CM_fill_194 : decode b_CM_fill 194 = .ok (.ireturn, 1) := by decide +kernel
theorem d_CM_pull_0 : decode b_CM_pull 0 = .ok (.aload_n 0, 1) := by decide +kernel
theorem d_CM_pull_1 : decode b_CM_pull 1 = .ok (.getfield 32, 3) := by decide +kernel
theorem d_CM_pull_4 : decode b_CM_pull 4 = .ok (.iload_n 1, 1) := by decide +kernel
theorem d_CM_pull_5 : decode b_CM_pull 5 = .ok (.dup2, 1) := by decide +kernel
theorem d_CM_pull_6 : decode b_CM_pull 6 = .ok (.iaload, 1) := by decide +kernel
theorem d_CM_pull_7 : decode b_CM_pull 7 = .ok (.iconst 1, 1) := by decide +kernel
theorem d_CM_pull_8 : decode b_CM_pull 8 = .ok (.isub, 1) := by decide +kernel
theorem d_CM_pull_9 : decode b_CM_pull 9 = .ok (.iastore, 1) := by decide +kernel
theorem d_CM_pull_10 : decode b_CM_pull 10 = .ok (.bipush 80, 2) := by decide +kernel
theorem d_CM_pull_12 : decode b_CM_pull 12 = .ok (.iload_n 1, 1) := by decide +kernel
theorem d_CM_pull_13 : decode b_CM_pull 13 = .ok (.imul, 1) := by decide +kernel
theorem d_CM_pull_14 : decode b_CM_pull 14 = .ok (.iload_n 2, 1) := by decide +kernel
theorem d_CM_pull_15 : decode b_CM_pull 15 = .ok (.iadd, 1) := by decide +kernel
theorem d_CM_pull_16 : decode b_CM_pull 16 = .ok (.istore_n 3, 1) := by decide +kernel
theorem d_CM_pull_17 : decode b_CM_pull 17 = .ok (.iload_n 3, 1) := by decide +kernel
theorem d_CM_pull_18 : decode b_CM_pull 18 = .ok (.bipush 80, 2) := by decide +kernel
theorem d_CM_pull_20 : decode b_CM_pull 20 = .ok (.iload_n 1, 1) := by decide +kernel
theorem d_CM_pull_21 : decode b_CM_pull 21 = .ok (.imul, 1) := by decide +kernel
theorem d_CM_pull_22 : decode b_CM_pull 22 = .ok (.aload_n 0, 1) := by decide +kernel
theorem d_CM_pull_23 : decode b_CM_pull 23 = .ok (.getfield 32, 3) := by decide +kernel
theorem d_CM_pull_26 : decode b_CM_pull 26 = .ok (.iload_n 1, 1) := by decide +kernel
theorem d_CM_pull_27 : decode b_CM_pull 27 = .ok (.iaload, 1) := by decide +kernel
theorem d_CM_pull_28 : decode b_CM_pull 28 = .ok (.iadd, 1) := by decide +kernel
theorem d_CM_pull_29 : decode b_CM_pull 29 = .ok (.if_icmp .ge 51, 3) := by decide +kernel
theorem d_CM_pull_32 : decode b_CM_pull 32 = .ok (.aload_n 0, 1) := by decide +kernel
theorem d_CM_pull_33 : decode b_CM_pull 33 = .ok (.getfield 23, 3) := by decide +kernel
theorem d_CM_pull_36 : decode b_CM_pull 36 = .ok (.iload_n 3, 1) := by decide +kernel
theorem d_CM_pull_37 : decode b_CM_pull 37 = .ok (.aload_n 0, 1) := by decide +kernel
theorem d_CM_pull_38 : decode b_CM_pull 38 = .ok (.getfield 23, 3) := by decide +kernel
theorem d_CM_pull_41 : decode b_CM_pull 41 = .ok (.iload_n 3, 1) := by decide +kernel
theorem d_CM_pull_42 : decode b_CM_pull 42 = .ok (.iconst 1, 1) := by decide +kernel
theorem d_CM_pull_43 : decode b_CM_pull 43 = .ok (.iadd, 1) := by decide +kernel
theorem d_CM_pull_44 : decode b_CM_pull 44 = .ok (.iaload, 1) := by decide +kernel
theorem d_CM_pull_45 : decode b_CM_pull 45 = .ok (.iastore, 1) := by decide +kernel
theorem d_CM_pull_46 : decode b_CM_pull 46 = .ok (.aload_n 0, 1) := by decide +kernel
theorem d_CM_pull_47 : decode b_CM_pull 47 = .ok (.getfield 26, 3) := by decide +kernel
theorem d_CM_pull_50 : decode b_CM_pull 50 = .ok (.iload_n 3, 1) := by decide +kernel
theorem d_CM_pull_51 : decode b_CM_pull 51 = .ok (.aload_n 0, 1) := by decide +kernel
theorem d_CM_pull_52 : decode b_CM_pull 52 = .ok (.getfield 26, 3) := by decide +kernel
theorem d_CM_pull_55 : decode b_CM_pull 55 = .ok (.iload_n 3, 1) := by decide +kernel
theorem d_CM_pull_56 : decode b_CM_pull 56 = .ok (.iconst 1, 1) := by decide +kernel
theorem d_CM_pull_57 : decode b_CM_pull 57 = .ok (.iadd, 1) := by decide +kernel
theorem d_CM_pull_58 : decode b_CM_pull 58 = .ok (.iaload, 1) := by decide +kernel
theorem d_CM_pull_59 : decode b_CM_pull 59 = .ok (.iastore, 1) := by decide +kernel
theorem d_CM_pull_60 : decode b_CM_pull 60 = .ok (.aload_n 0, 1) := by decide +kernel
theorem d_CM_pull_61 : decode b_CM_pull 61 = .ok (.getfield 29, 3) := by decide +kernel
theorem d_CM_pull_64 : decode b_CM_pull 64 = .ok (.iload_n 3, 1) := by decide +kernel
theorem d_CM_pull_65 : decode b_CM_pull 65 = .ok (.aload_n 0, 1) := by decide +kernel
theorem d_CM_pull_66 : decode b_CM_pull 66 = .ok (.getfield 29, 3) := by decide +kernel
theorem d_CM_pull_69 : decode b_CM_pull 69 = .ok (.iload_n 3, 1) := by decide +kernel
theorem d_CM_pull_70 : decode b_CM_pull 70 = .ok (.iconst 1, 1) := by decide +kernel
theorem d_CM_pull_71 : decode b_CM_pull 71 = .ok (.iadd, 1) := by decide +kernel
theorem d_CM_pull_72 : decode b_CM_pull 72 = .ok (.laload, 1) := by decide +kernel
theorem d_CM_pull_73 : decode b_CM_pull 73 = .ok (.lastore, 1) := by decide +kernel
theorem d_CM_pull_74 : decode b_CM_pull 74 = .ok (.iinc 3 1, 3) := by decide +kernel
theorem d_CM_pull_77 : decode b_CM_pull 77 = .ok (.goto (-60), 3) := by decide +kernel
theorem d_CM_pull_80 : decode b_CM_pull 80 = .ok (.return_, 1) := by decide +kernel
theorem d_CM_takeBack_0 : decode b_CM_takeBack 0 = .ok (.iconst 0, 1) := by decide +kernel
theorem d_CM_takeBack_1 : decode b_CM_takeBack 1 = .ok (.istore_n 1, 1) := by decide +kernel
theorem d_CM_takeBack_2 : decode b_CM_takeBack 2 = .ok (.iload_n 1, 1) := by decide +kernel
theorem d_CM_takeBack_3 : decode b_CM_takeBack 3 = .ok (.sipush 512, 3) := by decide +kernel
theorem d_CM_takeBack_6 : decode b_CM_takeBack 6 = .ok (.if_icmp .ge 45, 3) := by decide +kernel
theorem d_CM_takeBack_9 : decode b_CM_takeBack 9 = .ok (.aload_n 0, 1) := by decide +kernel
theorem d_CM_takeBack_10 : decode b_CM_takeBack 10 = .ok (.getfield 7, 3) := by decide +kernel
theorem d_CM_takeBack_13 : decode b_CM_takeBack 13 = .ok (.iload_n 1, 1) := by decide +kernel
theorem d_CM_takeBack_14 : decode b_CM_takeBack 14 = .ok (.aload_n 0, 1) := by decide +kernel
theorem d_CM_takeBack_15 : decode b_CM_takeBack 15 = .ok (.getfield 41, 3) := by decide +kernel
theorem d_CM_takeBack_18 : decode b_CM_takeBack 18 = .ok (.iload_n 1, 1) := by decide +kernel
theorem d_CM_takeBack_19 : decode b_CM_takeBack 19 = .ok (.iaload, 1) := by decide +kernel
theorem d_CM_takeBack_20 : decode b_CM_takeBack 20 = .ok (.iastore, 1) := by decide +kernel
theorem d_CM_takeBack_21 : decode b_CM_takeBack 21 = .ok (.aload_n 0, 1) := by decide +kernel
theorem d_CM_takeBack_22 : decode b_CM_takeBack 22 = .ok (.getfield 13, 3) := by decide +kernel
theorem d_CM_takeBack_25 : decode b_CM_takeBack 25 = .ok (.iload_n 1, 1) := by decide +kernel
theorem d_CM_takeBack_26 : decode b_CM_takeBack 26 = .ok (.aload_n 0, 1) := by decide +kernel
theorem d_CM_takeBack_27 : decode b_CM_takeBack 27 = .ok (.getfield 44, 3) := by decide +kernel
theorem d_CM_takeBack_30 : decode b_CM_takeBack 30 = .ok (.iload_n 1, 1) := by decide +kernel
theorem d_CM_takeBack_31 : decode b_CM_takeBack 31 = .ok (.iaload, 1) := by decide +kernel
theorem d_CM_takeBack_32 : decode b_CM_takeBack 32 = .ok (.iastore, 1) := by decide +kernel
theorem d_CM_takeBack_33 : decode b_CM_takeBack 33 = .ok (.aload_n 0, 1) := by decide +kernel
theorem d_CM_takeBack_34 : decode b_CM_takeBack 34 = .ok (.getfield 16, 3) := by decide +kernel
theorem d_CM_takeBack_37 : decode b_CM_takeBack 37 = .ok (.iload_n 1, 1) := by decide +kernel
theorem d_CM_takeBack_38 : decode b_CM_takeBack 38 = .ok (.aload_n 0, 1) := by decide +kernel
theorem d_CM_takeBack_39 : decode b_CM_takeBack 39 = .ok (.getfield 47, 3) := by decide +kernel
theorem d_CM_takeBack_42 : decode b_CM_takeBack 42 = .ok (.iload_n 1, 1) := by decide +kernel
theorem d_CM_takeBack_43 : decode b_CM_takeBack 43 = .ok (.laload, 1) := by decide +kernel
theorem d_CM_takeBack_44 : decode b_CM_takeBack 44 = .ok (.lastore, 1) := by decide +kernel
theorem d_CM_takeBack_45 : decode b_CM_takeBack 45 = .ok (.iinc 1 1, 3) := by decide +kernel
theorem d_CM_takeBack_48 : decode b_CM_takeBack 48 = .ok (.goto (-46), 3) := by decide +kernel
theorem d_CM_takeBack_51 : decode b_CM_takeBack 51 = .ok (.iconst 0, 1) := by decide +kernel
theorem d_CM_takeBack_52 : decode b_CM_takeBack 52 = .ok (.istore_n 1, 1) := by decide +kernel
theorem d_CM_takeBack_53 : decode b_CM_takeBack 53 = .ok (.iload_n 1, 1) := by decide +kernel
theorem d_CM_takeBack_54 : decode b_CM_takeBack 54 = .ok (.sipush 128, 3) := by decide +kernel
theorem d_CM_takeBack_57 : decode b_CM_takeBack 57 = .ok (.if_icmp .ge 21, 3) := by decide +kernel
theorem d_CM_takeBack_60 : decode b_CM_takeBack 60 = .ok (.aload_n 0, 1) := by decide +kernel
theorem d_CM_takeBack_61 : decode b_CM_takeBack 61 = .ok (.getfield 20, 3) := by decide +kernel
theorem d_CM_takeBack_64 : decode b_CM_takeBack 64 = .ok (.iload_n 1, 1) := by decide +kernel
theorem d_CM_takeBack_65 : decode b_CM_takeBack 65 = .ok (.aload_n 0, 1) := by decide +kernel
theorem d_CM_takeBack_66 : decode b_CM_takeBack 66 = .ok (.getfield 50, 3) := by decide +kernel
theorem d_CM_takeBack_69 : decode b_CM_takeBack 69 = .ok (.iload_n 1, 1) := by decide +kernel
theorem d_CM_takeBack_70 : decode b_CM_takeBack 70 = .ok (.iaload, 1) := by decide +kernel
theorem d_CM_takeBack_71 : decode b_CM_takeBack 71 = .ok (.iastore, 1) := by decide +kernel
theorem d_CM_takeBack_72 : decode b_CM_takeBack 72 = .ok (.iinc 1 1, 3) := by decide +kernel
theorem d_CM_takeBack_75 : decode b_CM_takeBack 75 = .ok (.goto (-22), 3) := by decide +kernel
theorem d_CM_takeBack_78 : decode b_CM_takeBack 78 = .ok (.iconst 0, 1) := by decide +kernel
theorem d_CM_takeBack_79 : decode b_CM_takeBack 79 = .ok (.istore_n 1, 1) := by decide +kernel
theorem d_CM_takeBack_80 : decode b_CM_takeBack 80 = .ok (.iload_n 1, 1) := by decide +kernel
theorem d_CM_takeBack_81 : decode b_CM_takeBack 81 = .ok (.sipush 160, 3) := by decide +kernel
theorem d_CM_takeBack_84 : decode b_CM_takeBack 84 = .ok (.if_icmp .ge 45, 3) := by decide +kernel
theorem d_CM_takeBack_87 : decode b_CM_takeBack 87 = .ok (.aload_n 0, 1) := by decide +kernel
theorem d_CM_takeBack_88 : decode b_CM_takeBack 88 = .ok (.getfield 23, 3) := by decide +kernel
theorem d_CM_takeBack_91 : decode b_CM_takeBack 91 = .ok (.iload_n 1, 1) := by decide +kernel
theorem d_CM_takeBack_92 : decode b_CM_takeBack 92 = .ok (.aload_n 0, 1) := by decide +kernel
theorem d_CM_takeBack_93 : decode b_CM_takeBack 93 = .ok (.getfield 53, 3) := by decide +kernel
theorem d_CM_takeBack_96 : decode b_CM_takeBack 96 = .ok (.iload_n 1, 1) := by decide +kernel
theorem d_CM_takeBack_97 : decode b_CM_takeBack 97 = .ok (.iaload, 1) := by decide +kernel
theorem d_CM_takeBack_98 : decode b_CM_takeBack 98 = .ok (.iastore, 1) := by decide +kernel
theorem d_CM_takeBack_99 : decode b_CM_takeBack 99 = .ok (.aload_n 0, 1) := by decide +kernel
theorem d_CM_takeBack_100 : decode b_CM_takeBack 100 = .ok (.getfield 26, 3) := by decide +kernel
theorem d_CM_takeBack_103 : decode b_CM_takeBack 103 = .ok (.iload_n 1, 1) := by decide +kernel
theorem d_CM_takeBack_104 : decode b_CM_takeBack 104 = .ok (.aload_n 0, 1) := by decide +kernel
theorem d_CM_takeBack_105 : decode b_CM_takeBack 105 = .ok (.getfield 56, 3) := by decide +kernel
theorem d_CM_takeBack_108 : decode b_CM_takeBack 108 = .ok (.iload_n 1, 1) := by decide +kernel
theorem d_CM_takeBack_109 : decode b_CM_takeBack 109 = .ok (.iaload, 1) := by decide +kernel
theorem d_CM_takeBack_110 : decode b_CM_takeBack 110 = .ok (.iastore, 1) := by decide +kernel
theorem d_CM_takeBack_111 : decode b_CM_takeBack 111 = .ok (.aload_n 0, 1) := by decide +kernel
theorem d_CM_takeBack_112 : decode b_CM_takeBack 112 = .ok (.getfield 29, 3) := by decide +kernel
theorem d_CM_takeBack_115 : decode b_CM_takeBack 115 = .ok (.iload_n 1, 1) := by decide +kernel
theorem d_CM_takeBack_116 : decode b_CM_takeBack 116 = .ok (.aload_n 0, 1) := by decide +kernel
theorem d_CM_takeBack_117 : decode b_CM_takeBack 117 = .ok (.getfield 59, 3) := by decide +kernel
theorem d_CM_takeBack_120 : decode b_CM_takeBack 120 = .ok (.iload_n 1, 1) := by decide +kernel
theorem d_CM_takeBack_121 : decode b_CM_takeBack 121 = .ok (.laload, 1) := by decide +kernel
theorem d_CM_takeBack_122 : decode b_CM_takeBack 122 = .ok (.lastore, 1) := by decide +kernel
theorem d_CM_takeBack_123 : decode b_CM_takeBack 123 = .ok (.iinc 1 1, 3) := by decide +kernel
theorem d_CM_takeBack_126 : decode b_CM_takeBack 126 = .ok (.goto (-46), 3) := by decide +kernel
theorem d_CM_takeBack_129 : decode b_CM_takeBack 129 = .ok (.iconst 0, 1) := by decide +kernel
theorem d_CM_takeBack_130 : decode b_CM_takeBack 130 = .ok (.istore_n 1, 1) := by decide +kernel
theorem d_CM_takeBack_131 : decode b_CM_takeBack 131 = .ok (.iload_n 1, 1) := by decide +kernel
theorem d_CM_takeBack_132 : decode b_CM_takeBack 132 = .ok (.iconst 2, 1) := by decide +kernel
theorem d_CM_takeBack_133 : decode b_CM_takeBack 133 = .ok (.if_icmp .ge 21, 3) := by decide +kernel
theorem d_CM_takeBack_136 : decode b_CM_takeBack 136 = .ok (.aload_n 0, 1) := by decide +kernel
theorem d_CM_takeBack_137 : decode b_CM_takeBack 137 = .ok (.getfield 32, 3) := by decide +kernel
theorem d_CM_takeBack_140 : decode b_CM_takeBack 140 = .ok (.iload_n 1, 1) := by decide +kernel
theorem d_CM_takeBack_141 : decode b_CM_takeBack 141 = .ok (.aload_n 0, 1) := by decide +kernel
theorem d_CM_takeBack_142 : decode b_CM_takeBack 142 = .ok (.getfield 62, 3) := by decide +kernel
theorem d_CM_takeBack_145 : decode b_CM_takeBack 145 = .ok (.iload_n 1, 1) := by decide +kernel
theorem d_CM_takeBack_146 : decode b_CM_takeBack 146 = .ok (.iaload, 1) := by decide +kernel
theorem d_CM_takeBack_147 : decode b_CM_takeBack 147 = .ok (.iastore, 1) := by decide +kernel
theorem d_CM_takeBack_148 : decode b_CM_takeBack 148 = .ok (.iinc 1 1, 3) := by decide +kernel
theorem d_CM_takeBack_151 : decode b_CM_takeBack 151 = .ok (.goto (-20), 3) := by decide +kernel
theorem d_CM_takeBack_154 : decode b_CM_takeBack 154 = .ok (.iconst 0, 1) := by decide +kernel
theorem d_CM_takeBack_155 : decode b_CM_takeBack 155 = .ok (.istore_n 1, 1) := by decide +kernel
theorem d_CM_takeBack_156 : decode b_CM_takeBack 156 = .ok (.iload_n 1, 1) := by decide +kernel
theorem d_CM_takeBack_157 : decode b_CM_takeBack 157 = .ok (.bipush 16, 2) := by decide +kernel
theorem d_CM_takeBack_159 : decode b_CM_takeBack 159 = .ok (.if_icmp .ge 21, 3) := by decide +kernel
theorem d_CM_takeBack_162 : decode b_CM_takeBack 162 = .ok (.aload_n 0, 1) := by decide +kernel
theorem d_CM_takeBack_163 : decode b_CM_takeBack 163 = .ok (.getfield 35, 3) := by decide +kernel
theorem d_CM_takeBack_166 : decode b_CM_takeBack 166 = .ok (.iload_n 1, 1) := by decide +kernel
theorem d_CM_takeBack_167 : decode b_CM_takeBack 167 = .ok (.aload_n 0, 1) := by decide +kernel
theorem d_CM_takeBack_168 : decode b_CM_takeBack 168 = .ok (.getfield 65, 3) := by decide +kernel
theorem d_CM_takeBack_171 : decode b_CM_takeBack 171 = .ok (.iload_n 1, 1) := by decide +kernel
theorem d_CM_takeBack_172 : decode b_CM_takeBack 172 = .ok (.iaload, 1) := by decide +kernel
theorem d_CM_takeBack_173 : decode b_CM_takeBack 173 = .ok (.iastore, 1) := by decide +kernel
theorem d_CM_takeBack_174 : decode b_CM_takeBack 174 = .ok (.iinc 1 1, 3) := by decide +kernel
theorem d_CM_takeBack_177 : decode b_CM_takeBack 177 = .ok (.goto (-21), 3) := by decide +kernel
theorem d_CM_takeBack_180 : decode b_CM_takeBack 180 = .ok (.return_, 1) := by decide +kernel
theorem d_CM_mark_0 : decode b_CM_mark 0 = .ok (.aload_n 0, 1) := by decide +kernel
theorem d_CM_mark_1 : decode b_CM_mark 1 = .ok (.getfield 135, 3) := by decide +kernel
theorem d_CM_mark_4 : decode b_CM_mark 4 = .ok (.sipush 600, 3) := by decide +kernel
theorem d_CM_mark_7 : decode b_CM_mark 7 = .ok (.if_icmp .ne 42, 3) := by decide +kernel
theorem d_CM_mark_10 : decode b_CM_mark 10 = .ok (.iconst 0, 1) := by decide +kernel
theorem d_CM_mark_11 : decode b_CM_mark 11 = .ok (.istore_n 3, 1) := by decide +kernel
theorem d_CM_mark_12 : decode b_CM_mark 12 = .ok (.iload_n 3, 1) := by decide +kernel
theorem d_CM_mark_13 : decode b_CM_mark 13 = .ok (.sipush 1198, 3) := by decide +kernel
theorem d_CM_mark_16 : decode b_CM_mark 16 = .ok (.if_icmp .ge 23, 3) := by decide +kernel
theorem d_CM_mark_19 : decode b_CM_mark 19 = .ok (.aload_n 0, 1) := by decide +kernel
theorem d_CM_mark_20 : decode b_CM_mark 20 = .ok (.getfield 38, 3) := by decide +kernel
theorem d_CM_mark_23 : decode b_CM_mark 23 = .ok (.iload_n 3, 1) := by decide +kernel
theorem d_CM_mark_24 : decode b_CM_mark 24 = .ok (.aload_n 0, 1) := by decide +kernel
theorem d_CM_mark_25 : decode b_CM_mark 25 = .ok (.getfield 38, 3) := by decide +kernel
theorem d_CM_mark_28 : decode b_CM_mark 28 = .ok (.iload_n 3, 1) := by decide +kernel
theorem d_CM_mark_29 : decode b_CM_mark 29 = .ok (.iconst 2, 1) := by decide +kernel
theorem d_CM_mark_30 : decode b_CM_mark 30 = .ok (.iadd, 1) := by decide +kernel
theorem d_CM_mark_31 : decode b_CM_mark 31 = .ok (.iaload, 1) := by decide +kernel
theorem d_CM_mark_32 : decode b_CM_mark 32 = .ok (.iastore, 1) := by decide +kernel
theorem d_CM_mark_33 : decode b_CM_mark 33 = .ok (.iinc 3 1, 3) := by decide +kernel
theorem d_CM_mark_36 : decode b_CM_mark 36 = .ok (.goto (-24), 3) := by decide +kernel
theorem d_CM_mark_39 : decode b_CM_mark 39 = .ok (.aload_n 0, 1) := by decide +kernel
theorem d_CM_mark_40 : decode b_CM_mark 40 = .ok (.dup, 1) := by decide +kernel
theorem d_CM_mark_41 : decode b_CM_mark 41 = .ok (.getfield 135, 3) := by decide +kernel
theorem d_CM_mark_44 : decode b_CM_mark 44 = .ok (.iconst 1, 1) := by decide +kernel
theorem d_CM_mark_45 : decode b_CM_mark 45 = .ok (.isub, 1) := by decide +kernel
theorem d_CM_mark_46 : decode b_CM_mark 46 = .ok (.putfield 135, 3) := by decide +kernel
theorem d_CM_mark_49 : decode b_CM_mark 49 = .ok (.aload_n 0, 1) := by decide +kernel
theorem d_CM_mark_50 : decode b_CM_mark 50 = .ok (.getfield 38, 3) := by decide +kernel
theorem d_CM_mark_53 : decode b_CM_mark 53 = .ok (.iconst 2, 1) := by decide +kernel
theorem d_CM_mark_54 : decode b_CM_mark 54 = .ok (.aload_n 0, 1) := by decide +kernel
theorem d_CM_mark_55 : decode b_CM_mark 55 = .ok (.getfield 135, 3) := by decide +kernel
theorem d_CM_mark_58 : decode b_CM_mark 58 = .ok (.imul, 1) := by decide +kernel
theorem d_CM_mark_59 : decode b_CM_mark 59 = .ok (.iload_n 1, 1) := by decide +kernel
theorem d_CM_mark_60 : decode b_CM_mark 60 = .ok (.iastore, 1) := by decide +kernel
theorem d_CM_mark_61 : decode b_CM_mark 61 = .ok (.aload_n 0, 1) := by decide +kernel
theorem d_CM_mark_62 : decode b_CM_mark 62 = .ok (.getfield 38, 3) := by decide +kernel
theorem d_CM_mark_65 : decode b_CM_mark 65 = .ok (.iconst 2, 1) := by decide +kernel
theorem d_CM_mark_66 : decode b_CM_mark 66 = .ok (.aload_n 0, 1) := by decide +kernel
theorem d_CM_mark_67 : decode b_CM_mark 67 = .ok (.getfield 135, 3) := by decide +kernel
theorem d_CM_mark_70 : decode b_CM_mark 70 = .ok (.imul, 1) := by decide +kernel
theorem d_CM_mark_71 : decode b_CM_mark 71 = .ok (.iconst 1, 1) := by decide +kernel
theorem d_CM_mark_72 : decode b_CM_mark 72 = .ok (.iadd, 1) := by decide +kernel
theorem d_CM_mark_73 : decode b_CM_mark 73 = .ok (.iload_n 2, 1) := by decide +kernel
theorem d_CM_mark_74 : decode b_CM_mark 74 = .ok (.iastore, 1) := by decide +kernel
theorem d_CM_mark_75 : decode b_CM_mark 75 = .ok (.aload_n 0, 1) := by decide +kernel
theorem d_CM_mark_76 : decode b_CM_mark 76 = .ok (.dup, 1) := by decide +kernel
theorem d_CM_mark_77 : decode b_CM_mark 77 = .ok (.getfield 135, 3) := by decide +kernel
theorem d_CM_mark_80 : decode b_CM_mark 80 = .ok (.iconst 1, 1) := by decide +kernel
theorem d_CM_mark_81 : decode b_CM_mark 81 = .ok (.iadd, 1) := by decide +kernel
theorem d_CM_mark_82 : decode b_CM_mark 82 = .ok (.putfield 135, 3) := by decide +kernel
theorem d_CM_mark_85 : decode b_CM_mark 85 = .ok (.return_, 1) := by decide +kernel
theorem d_CM_write_0 : decode b_CM_write 0 = .ok (.aload_n 0, 1) := by decide +kernel
theorem d_CM_write_1 : decode b_CM_write 1 = .ok (.iload_n 1, 1) := by decide +kernel
theorem d_CM_write_2 : decode b_CM_write 2 = .ok (.iconst 1, 1) := by decide +kernel
theorem d_CM_write_3 : decode b_CM_write 3 = .ok (.lload_n 2, 1) := by decide +kernel
theorem d_CM_write_4 : decode b_CM_write 4 = .ok (.iload 4, 2) := by decide +kernel
theorem d_CM_write_6 : decode b_CM_write 6 = .ok (.iload 5, 2) := by decide +kernel
theorem d_CM_write_8 : decode b_CM_write 8 = .ok (.invokevirtual 138, 3) := by decide +kernel
theorem d_CM_write_11 : decode b_CM_write 11 = .ok (.lreturn, 1) := by decide +kernel
theorem d_CM_trace_0 : decode b_CM_trace 0 = .ok (.aload_n 0, 1) := by decide +kernel
theorem d_CM_trace_1 : decode b_CM_trace 1 = .ok (.iload_n 1, 1) := by decide +kernel
theorem d_CM_trace_2 : decode b_CM_trace 2 = .ok (.invokestatic 142, 3) := by decide +kernel
theorem d_CM_trace_5 : decode b_CM_trace 5 = .ok (.ifCond .eq 19, 3) := by decide +kernel
theorem d_CM_trace_8 : decode b_CM_trace 8 = .ok (.iload_n 2, 1) := by decide +kernel
theorem d_CM_trace_9 : decode b_CM_trace 9 = .ok (.ifCond .lt 15, 3) := by decide +kernel
theorem d_CM_trace_12 : decode b_CM_trace 12 = .ok (.iload_n 2, 1) := by decide +kernel
theorem d_CM_trace_13 : decode b_CM_trace 13 = .ok (.aload_n 0, 1) := by decide +kernel
theorem d_CM_trace_14 : decode b_CM_trace 14 = .ok (.getfield 135, 3) := by decide +kernel
theorem d_CM_trace_17 : decode b_CM_trace 17 = .ok (.if_icmp .ge 7, 3) := by decide +kernel
theorem d_CM_trace_20 : decode b_CM_trace 20 = .ok (.iconst 0, 1) := by decide +kernel
theorem d_CM_trace_21 : decode b_CM_trace 21 = .ok (.goto 4, 3) := by decide +kernel
theorem d_CM_trace_24 : decode b_CM_trace 24 = .ok (.iconst 1, 1) := by decide +kernel
theorem d_CM_trace_25 : decode b_CM_trace 25 = .ok (.putfield 86, 3) := by decide +kernel
theorem d_CM_trace_28 : decode b_CM_trace 28 = .ok (.aload_n 0, 1) := by decide +kernel
theorem d_CM_trace_29 : decode b_CM_trace 29 = .ok (.getfield 86, 3) := by decide +kernel
theorem d_CM_trace_32 : decode b_CM_trace 32 = .ok (.ifCond .le 7, 3) := by decide +kernel
theorem d_CM_trace_35 : decode b_CM_trace 35 = .ok (.iconst 0, 1) := by decide +kernel
theorem d_CM_trace_36 : decode b_CM_trace 36 = .ok (.goto 13, 3) := by decide +kernel
theorem d_CM_trace_39 : decode b_CM_trace 39 = .ok (.aload_n 0, 1) := by decide +kernel
theorem d_CM_trace_40 : decode b_CM_trace 40 = .ok (.getfield 38, 3) := by decide +kernel
theorem d_CM_trace_43 : decode b_CM_trace 43 = .ok (.iconst 2, 1) := by decide +kernel
theorem d_CM_trace_44 : decode b_CM_trace 44 = .ok (.iload_n 2, 1) := by decide +kernel
theorem d_CM_trace_45 : decode b_CM_trace 45 = .ok (.imul, 1) := by decide +kernel
theorem d_CM_trace_46 : decode b_CM_trace 46 = .ok (.iload_n 1, 1) := by decide +kernel
theorem d_CM_trace_47 : decode b_CM_trace 47 = .ok (.iadd, 1) := by decide +kernel
theorem d_CM_trace_48 : decode b_CM_trace 48 = .ok (.iaload, 1) := by decide +kernel
theorem d_CM_trace_49 : decode b_CM_trace 49 = .ok (.ireturn, 1) := by decide +kernel
theorem d_CM_isTree_0 : decode b_CM_isTree 0 = .ok (.iload_n 0, 1) := by decide +kernel
theorem d_CM_isTree_1 : decode b_CM_isTree 1 = .ok (.ifCond .eq 8, 3) := by decide +kernel
theorem d_CM_isTree_4 : decode b_CM_isTree 4 = .ok (.iload_n 0, 1) := by decide +kernel
theorem d_CM_isTree_5 : decode b_CM_isTree 5 = .ok (.iconst 1, 1) := by decide +kernel
theorem d_CM_isTree_6 : decode b_CM_isTree 6 = .ok (.if_icmp .ne 7, 3) := by decide +kernel
theorem d_CM_isTree_9 : decode b_CM_isTree 9 = .ok (.iconst 1, 1) := by decide +kernel
theorem d_CM_isTree_10 : decode b_CM_isTree 10 = .ok (.goto 4, 3) := by decide +kernel
theorem d_CM_isTree_13 : decode b_CM_isTree 13 = .ok (.iconst 0, 1) := by decide +kernel
theorem d_CM_isTree_14 : decode b_CM_isTree 14 = .ok (.ireturn, 1) := by decide +kernel
theorem d_CM_stored_0 : decode b_CM_stored 0 = .ok (.aload_n 0, 1) := by decide +kernel
theorem d_CM_stored_1 : decode b_CM_stored 1 = .ok (.aload_n 0, 1) := by decide +kernel
theorem d_CM_stored_2 : decode b_CM_stored 2 = .ok (.iload_n 1, 1) := by decide +kernel
theorem d_CM_stored_3 : decode b_CM_stored 3 = .ok (.iload_n 2, 1) := by decide +kernel
theorem d_CM_stored_4 : decode b_CM_stored 4 = .ok (.invokevirtual 150, 3) := by decide +kernel
theorem d_CM_stored_7 : decode b_CM_stored 7 = .ok (.ifCond .eq 30, 3) := by decide +kernel
theorem d_CM_stored_10 : decode b_CM_stored 10 = .ok (.iload_n 3, 1) := by decide +kernel
theorem d_CM_stored_11 : decode b_CM_stored 11 = .ok (.ifCond .lt 26, 3) := by decide +kernel
theorem d_CM_stored_14 : decode b_CM_stored 14 = .ok (.iload_n 3, 1) := by decide +kernel
theorem d_CM_stored_15 : decode b_CM_stored 15 = .ok (.aload_n 0, 1) := by decide +kernel
theorem d_CM_stored_16 : decode b_CM_stored 16 = .ok (.getfield 72, 3) := by decide +kernel
theorem d_CM_stored_19 : decode b_CM_stored 19 = .ok (.if_icmp .ge 18, 3) := by decide +kernel
theorem d_CM_stored_22 : decode b_CM_stored 22 = .ok (.iload 4, 2) := by decide +kernel
theorem d_CM_stored_24 : decode b_CM_stored 24 = .ok (.ifCond .lt 13, 3) := by decide +kernel
theorem d_CM_stored_27 : decode b_CM_stored 27 = .ok (.iload 4, 2) := by decide +kernel
theorem d_CM_stored_29 : decode b_CM_stored 29 = .ok (.iconst 2, 1) := by decide +kernel
theorem d_CM_stored_30 : decode b_CM_stored 30 = .ok (.if_icmp .gt 7, 3) := by decide +kernel
theorem d_CM_stored_33 : decode b_CM_stored 33 = .ok (.iconst 0, 1) := by decide +kernel
theorem d_CM_stored_34 : decode b_CM_stored 34 = .ok (.goto 4, 3) := by decide +kernel
theorem d_CM_stored_37 : decode b_CM_stored 37 = .ok (.iconst 1, 1) := by decide +kernel
theorem d_CM_stored_38 : decode b_CM_stored 38 = .ok (.putfield 86, 3) := by decide +kernel
theorem d_CM_stored_41 : decode b_CM_stored 41 = .ok (.aload_n 0, 1) := by decide +kernel
theorem d_CM_stored_42 : decode b_CM_stored 42 = .ok (.getfield 86, 3) := by decide +kernel
theorem d_CM_stored_45 : decode b_CM_stored 45 = .ok (.ifCond .le 5, 3) := by decide +kernel
theorem d_CM_stored_48 : decode b_CM_stored 48 = .ok (.lconst 0, 1) := by decide +kernel
theorem d_CM_stored_49 : decode b_CM_stored 49 = .ok (.lreturn, 1) := by decide +kernel
theorem d_CM_stored_50 : decode b_CM_stored 50 = .ok (.iload_n 1, 1) := by decide +kernel
theorem d_CM_stored_51 : decode b_CM_stored 51 = .ok (.iload_n 2, 1) := by decide +kernel
theorem d_CM_stored_52 : decode b_CM_stored 52 = .ok (.iload_n 3, 1) := by decide +kernel
theorem d_CM_stored_53 : decode b_CM_stored 53 = .ok (.invokestatic 92, 3) := by decide +kernel
theorem d_CM_stored_56 : decode b_CM_stored 56 = .ok (.istore 5, 2) := by decide +kernel
theorem d_CM_stored_58 : decode b_CM_stored 58 = .ok (.aload_n 0, 1) := by decide +kernel
theorem d_CM_stored_59 : decode b_CM_stored 59 = .ok (.getfield 7, 3) := by decide +kernel
theorem d_CM_stored_62 : decode b_CM_stored 62 = .ok (.iload 5, 2) := by decide +kernel
theorem d_CM_stored_64 : decode b_CM_stored 64 = .ok (.iaload, 1) := by decide +kernel
theorem d_CM_stored_65 : decode b_CM_stored 65 = .ok (.iconst (-1), 1) := by decide +kernel
theorem d_CM_stored_66 : decode b_CM_stored 66 = .ok (.if_icmp .ne 7, 3) := by decide +kernel
theorem d_CM_stored_69 : decode b_CM_stored 69 = .ok (.iconst 1, 1) := by decide +kernel
theorem d_CM_stored_70 : decode b_CM_stored 70 = .ok (.goto 4, 3) := by decide +kernel
theorem d_CM_stored_73 : decode b_CM_stored 73 = .ok (.iconst 0, 1) := by decide +kernel
theorem d_CM_stored_74 : decode b_CM_stored 74 = .ok (.istore 6, 2) := by decide +kernel
theorem d_CM_stored_76 : decode b_CM_stored 76 = .ok (.iload 6, 2) := by decide +kernel
theorem d_CM_stored_78 : decode b_CM_stored 78 = .ok (.ifCond .eq 7, 3) := by decide +kernel
theorem d_CM_stored_81 : decode b_CM_stored 81 = .ok (.lconst 0, 1) := by decide +kernel
theorem d_CM_stored_82 : decode b_CM_stored 82 = .ok (.goto 45, 3) := by decide +kernel
theorem d_CM_stored_85 : decode b_CM_stored 85 = .ok (.iload 4, 2) := by decide +kernel
theorem d_CM_stored_87 : decode b_CM_stored 87 = .ok (.ifCond .ne 16, 3) := by decide +kernel
theorem d_CM_stored_90 : decode b_CM_stored 90 = .ok (.aload_n 0, 1) := by decide +kernel
theorem d_CM_stored_91 : decode b_CM_stored 91 = .ok (.getfield 7, 3) := by decide +kernel
theorem d_CM_stored_94 : decode b_CM_stored 94 = .ok (.iload 5, 2) := by decide +kernel
theorem d_CM_stored_96 : decode b_CM_stored 96 = .ok (.iaload, 1) := by decide +kernel
theorem d_CM_stored_97 : decode b_CM_stored 97 = .ok (.i2l, 1) := by decide +kernel
theorem d_CM_stored_98 : decode b_CM_stored 98 = .ok (.lconst 1, 1) := by decide +kernel
theorem d_CM_stored_99 : decode b_CM_stored 99 = .ok (.ladd, 1) := by decide +kernel
theorem d_CM_stored_100 : decode b_CM_stored 100 = .ok (.goto 27, 3) := by decide +kernel
theorem d_CM_stored_103 : decode b_CM_stored 103 = .ok (.iload 4, 2) := by decide +kernel
theorem d_CM_stored_105 : decode b_CM_stored 105 = .ok (.iconst 1, 1) := by decide +kernel
theorem d_CM_stored_106 : decode b_CM_stored 106 = .ok (.if_icmp .ne 14, 3) := by decide +kernel
theorem d_CM_stored_109 : decode b_CM_stored 109 = .ok (.aload_n 0, 1) := by decide +kernel
theorem d_CM_stored_110 : decode b_CM_stored 110 = .ok (.getfield 13, 3) := by decide +kernel
theorem d_CM_stored_113 : decode b_CM_stored 113 = .ok (.iload 5, 2) := by decide +kernel
theorem d_CM_stored_115 : decode b_CM_stored 115 = .ok (.iaload, 1) := by decide +kernel
theorem d_CM_stored_116 : decode b_CM_stored 116 = .ok (.i2l, 1) := by decide +kernel
theorem d_CM_stored_117 : decode b_CM_stored 117 = .ok (.goto 10, 3) := by decide +kernel
theorem d_CM_stored_120 : decode b_CM_stored 120 = .ok (.aload_n 0, 1) := by decide +kernel
theorem d_CM_stored_121 : decode b_CM_stored 121 = .ok (.getfield 16, 3) := by decide +kernel
theorem d_CM_stored_124 : decode b_CM_stored 124 = .ok (.iload 5, 2) := by decide +kernel
theorem d_CM_stored_126 : decode b_CM_stored 126 = .ok (.laload, 1) := by decide +kernel
theorem d_CM_stored_127 : decode b_CM_stored 127 = .ok (.lstore 7, 2) := by decide +kernel
theorem d_CM_stored_129 : decode b_CM_stored 129 = .ok (.iload_n 1, 1) := by decide +kernel
theorem d_CM_stored_130 : decode b_CM_stored 130 = .ok (.i2l, 1) := by decide +kernel
theorem d_CM_stored_131 : decode b_CM_stored 131 = .ok (.ldc2_w 153, 3) := by decide +kernel
theorem d_CM_stored_134 : decode b_CM_stored 134 = .ok (.lmul, 1) := by decide +kernel
theorem d_CM_stored_135 : decode b_CM_stored 135 = .ok (.iload_n 2, 1) := by decide +kernel
theorem d_CM_stored_136 : decode b_CM_stored 136 = .ok (.i2l, 1) := by decide +kernel
theorem d_CM_stored_137 : decode b_CM_stored 137 = .ok (.ladd, 1) := by decide +kernel
theorem d_CM_stored_138 : decode b_CM_stored 138 = .ok (.ldc2_w 155, 3) := by decide +kernel
theorem d_CM_stored_141 : decode b_CM_stored 141 = .ok (.lmul, 1) := by decide +kernel
theorem d_CM_stored_142 : decode b_CM_stored 142 = .ok (.iload_n 3, 1) := by decide +kernel
theorem d_CM_stored_143 : decode b_CM_stored 143 = .ok (.i2l, 1) := by decide +kernel
theorem d_CM_stored_144 : decode b_CM_stored 144 = .ok (.ladd, 1) := by decide +kernel
theorem d_CM_stored_145 : decode b_CM_stored 145 = .ok (.ldc2_w 155, 3) := by decide +kernel
theorem d_CM_stored_148 : decode b_CM_stored 148 = .ok (.lmul, 1) := by decide +kernel
theorem d_CM_stored_149 : decode b_CM_stored 149 = .ok (.iload 4, 2) := by decide +kernel
theorem d_CM_stored_151 : decode b_CM_stored 151 = .ok (.i2l, 1) := by decide +kernel
theorem d_CM_stored_152 : decode b_CM_stored 152 = .ok (.ladd, 1) := by decide +kernel
theorem d_CM_stored_153 : decode b_CM_stored 153 = .ok (.lstore 9, 2) := by decide +kernel
theorem d_CM_stored_155 : decode b_CM_stored 155 = .ok (.lload 7, 2) := by decide +kernel
theorem d_CM_stored_157 : decode b_CM_stored 157 = .ok (.aload_n 0, 1) := by decide +kernel
theorem d_CM_stored_158 : decode b_CM_stored 158 = .ok (.getfield 78, 3) := by decide +kernel
theorem d_CM_stored_161 : decode b_CM_stored 161 = .ok (.ldc2_w 157, 3) := by decide +kernel
theorem d_CM_stored_164 : decode b_CM_stored 164 = .ok (.lload 9, 2) := by decide +kernel
theorem d_CM_stored_166 : decode b_CM_stored 166 = .ok (.lmul, 1) := by decide +kernel
theorem d_CM_stored_167 : decode b_CM_stored 167 = .ok (.ladd, 1) := by decide +kernel
theorem d_CM_stored_168 : decode b_CM_stored 168 = .ok (.ldc2_w 159, 3) := by decide +kernel
theorem d_CM_stored_171 : decode b_CM_stored 171 = .ok (.aload_n 0, 1) := by decide +kernel
theorem d_CM_stored_172 : decode b_CM_stored 172 = .ok (.getfield 20, 3) := by decide +kernel
theorem d_CM_stored_175 : decode b_CM_stored 175 = .ok (.bipush 64, 2) := by decide +kernel
theorem d_CM_stored_177 : decode b_CM_stored 177 = .ok (.iload_n 1, 1) := by decide +kernel
theorem d_CM_stored_178 : decode b_CM_stored 178 = .ok (.imul, 1) := by decide +kernel
theorem d_CM_stored_179 : decode b_CM_stored 179 = .ok (.iload_n 2, 1) := by decide +kernel
theorem d_CM_stored_180 : decode b_CM_stored 180 = .ok (.iadd, 1) := by decide +kernel
theorem d_CM_stored_181 : decode b_CM_stored 181 = .ok (.iaload, 1) := by decide +kernel
theorem d_CM_stored_182 : decode b_CM_stored 182 = .ok (.i2l, 1) := by decide +kernel
theorem d_CM_stored_183 : decode b_CM_stored 183 = .ok (.lmul, 1) := by decide +kernel
theorem d_CM_stored_184 : decode b_CM_stored 184 = .ok (.ladd, 1) := by decide +kernel
theorem d_CM_stored_185 : decode b_CM_stored 185 = .ok (.invokestatic 161, 3) := by decide +kernel
theorem d_CM_stored_188 : decode b_CM_stored 188 = .ok (.lxor, 1) := by decide +kernel
theorem d_CM_stored_189 : decode b_CM_stored 189 = .ok (.lreturn, 1) := by decide +kernel
theorem d_CM_isNode_0 : decode b_CM_isNode 0 = .ok (.iload_n 1, 1) := by decide +kernel
theorem d_CM_isNode_1 : decode b_CM_isNode 1 = .ok (.invokestatic 142, 3) := by decide +kernel
theorem d_CM_isNode_4 : decode b_CM_isNode 4 = .ok (.ifCond .eq 23, 3) := by decide +kernel
theorem d_CM_isNode_7 : decode b_CM_isNode 7 = .ok (.iload_n 2, 1) := by decide +kernel
theorem d_CM_isNode_8 : decode b_CM_isNode 8 = .ok (.iconst 1, 1) := by decide +kernel
theorem d_CM_isNode_9 : decode b_CM_isNode 9 = .ok (.if_icmp .lt 18, 3) := by decide +kernel
theorem d_CM_isNode_12 : decode b_CM_isNode 12 = .ok (.iload_n 2, 1) := by decide +kernel
theorem d_CM_isNode_13 : decode b_CM_isNode 13 = .ok (.iconst 2, 1) := by decide +kernel
theorem d_CM_isNode_14 : decode b_CM_isNode 14 = .ok (.aload_n 0, 1) := by decide +kernel
theorem d_CM_isNode_15 : decode b_CM_isNode 15 = .ok (.iload_n 1, 1) := by decide +kernel
theorem d_CM_isNode_16 : decode b_CM_isNode 16 = .ok (.invokevirtual 82, 3) := by decide +kernel
theorem d_CM_isNode_19 : decode b_CM_isNode 19 = .ok (.imul, 1) := by decide +kernel
theorem d_CM_isNode_20 : decode b_CM_isNode 20 = .ok (.if_icmp .ge 7, 3) := by decide +kernel
theorem d_CM_isNode_23 : decode b_CM_isNode 23 = .ok (.iconst 1, 1) := by decide +kernel
theorem d_CM_isNode_24 : decode b_CM_isNode 24 = .ok (.goto 4, 3) := by decide +kernel
theorem d_CM_isNode_27 : decode b_CM_isNode 27 = .ok (.iconst 0, 1) := by decide +kernel
theorem d_CM_isNode_28 : decode b_CM_isNode 28 = .ok (.ireturn, 1) := by decide +kernel
theorem d_CM_mix_0 : decode b_CM_mix 0 = .ok (.lload_n 0, 1) := by decide +kernel
theorem d_CM_mix_1 : decode b_CM_mix 1 = .ok (.lstore_n 2, 1) := by decide +kernel
theorem d_CM_mix_2 : decode b_CM_mix 2 = .ok (.lload_n 2, 1) := by decide +kernel
theorem d_CM_mix_3 : decode b_CM_mix 3 = .ok (.lload_n 2, 1) := by decide +kernel
theorem d_CM_mix_4 : decode b_CM_mix 4 = .ok (.bipush 30, 2) := by decide +kernel
theorem d_CM_mix_6 : decode b_CM_mix 6 = .ok (.lushr, 1) := by decide +kernel
theorem d_CM_mix_7 : decode b_CM_mix 7 = .ok (.lxor, 1) := by decide +kernel
theorem d_CM_mix_8 : decode b_CM_mix 8 = .ok (.ldc2_w 146, 3) := by decide +kernel
theorem d_CM_mix_11 : decode b_CM_mix 11 = .ok (.lmul, 1) := by decide +kernel
theorem d_CM_mix_12 : decode b_CM_mix 12 = .ok (.lstore_n 2, 1) := by decide +kernel
theorem d_CM_mix_13 : decode b_CM_mix 13 = .ok (.lload_n 2, 1) := by decide +kernel
theorem d_CM_mix_14 : decode b_CM_mix 14 = .ok (.lload_n 2, 1) := by decide +kernel
theorem d_CM_mix_15 : decode b_CM_mix 15 = .ok (.bipush 27, 2) := by decide +kernel
theorem d_CM_mix_17 : decode b_CM_mix 17 = .ok (.lushr, 1) := by decide +kernel
theorem d_CM_mix_18 : decode b_CM_mix 18 = .ok (.lxor, 1) := by decide +kernel
theorem d_CM_mix_19 : decode b_CM_mix 19 = .ok (.ldc2_w 148, 3) := by decide +kernel
theorem d_CM_mix_22 : decode b_CM_mix 22 = .ok (.lmul, 1) := by decide +kernel
theorem d_CM_mix_23 : decode b_CM_mix 23 = .ok (.lstore_n 2, 1) := by decide +kernel
theorem d_CM_mix_24 : decode b_CM_mix 24 = .ok (.lload_n 2, 1) := by decide +kernel
theorem d_CM_mix_25 : decode b_CM_mix 25 = .ok (.lload_n 2, 1) := by decide +kernel
theorem d_CM_mix_26 : decode b_CM_mix 26 = .ok (.bipush 31, 2) := by decide +kernel
theorem d_CM_mix_28 : decode b_CM_mix 28 = .ok (.lushr, 1) := by decide +kernel
theorem d_CM_mix_29 : decode b_CM_mix 29 = .ok (.lxor, 1) := by decide +kernel
theorem d_CM_mix_30 : decode b_CM_mix 30 = .ok (.lreturn, 1) := by decide +kernel
theorem d_CM_written_0 : decode b_CM_written 0 = .ok (.aload_n 0, 1) := by decide +kernel
theorem d_CM_written_1 : decode b_CM_written 1 = .ok (.aload_n 0, 1) := by decide +kernel
theorem d_CM_written_2 : decode b_CM_written 2 = .ok (.iload_n 1, 1) := by decide +kernel
theorem d_CM_written_3 : decode b_CM_written 3 = .ok (.iload_n 2, 1) := by decide +kernel
theorem d_CM_written_4 : decode b_CM_written 4 = .ok (.invokevirtual 150, 3) := by decide +kernel
theorem d_CM_written_7 : decode b_CM_written 7 = .ok (.ifCond .eq 7, 3) := by decide +kernel
theorem d_CM_written_10 : decode b_CM_written 10 = .ok (.iconst 0, 1) := by decide +kernel
theorem d_CM_written_11 : decode b_CM_written 11 = .ok (.goto 4, 3) := by decide +kernel
theorem d_CM_written_14 : decode b_CM_written 14 = .ok (.iconst 1, 1) := by decide +kernel
theorem d_CM_written_15 : decode b_CM_written 15 = .ok (.putfield 86, 3) := by decide +kernel
theorem d_CM_written_18 : decode b_CM_written 18 = .ok (.aload_n 0, 1) := by decide +kernel
theorem d_CM_written_19 : decode b_CM_written 19 = .ok (.getfield 86, 3) := by decide +kernel
theorem d_CM_written_22 : decode b_CM_written 22 = .ok (.ifCond .le 7, 3) := by decide +kernel
theorem d_CM_written_25 : decode b_CM_written 25 = .ok (.iconst 0, 1) := by decide +kernel
theorem d_CM_written_26 : decode b_CM_written 26 = .ok (.goto 14, 3) := by decide +kernel
theorem d_CM_written_29 : decode b_CM_written 29 = .ok (.aload_n 0, 1) := by decide +kernel
theorem d_CM_written_30 : decode b_CM_written 30 = .ok (.getfield 20, 3) := by decide +kernel
theorem d_CM_written_33 : decode b_CM_written 33 = .ok (.bipush 64, 2) := by decide +kernel
theorem d_CM_written_35 : decode b_CM_written 35 = .ok (.iload_n 1, 1) := by decide +kernel
theorem d_CM_written_36 : decode b_CM_written 36 = .ok (.imul, 1) := by decide +kernel
theorem d_CM_written_37 : decode b_CM_written 37 = .ok (.iload_n 2, 1) := by decide +kernel
theorem d_CM_written_38 : decode b_CM_written 38 = .ok (.iadd, 1) := by decide +kernel
theorem d_CM_written_39 : decode b_CM_written 39 = .ok (.iaload, 1) := by decide +kernel
theorem d_CM_written_40 : decode b_CM_written 40 = .ok (.ireturn, 1) := by decide +kernel
theorem d_CM_stash_0 : decode b_CM_stash 0 = .ok (.aload_n 0, 1) := by decide +kernel
theorem d_CM_stash_1 : decode b_CM_stash 1 = .ok (.iload_n 1, 1) := by decide +kernel
theorem d_CM_stash_2 : decode b_CM_stash 2 = .ok (.invokestatic 142, 3) := by decide +kernel
theorem d_CM_stash_5 : decode b_CM_stash 5 = .ok (.ifCond .eq 11, 3) := by decide +kernel
theorem d_CM_stash_8 : decode b_CM_stash 8 = .ok (.iload_n 2, 1) := by decide +kernel
theorem d_CM_stash_9 : decode b_CM_stash 9 = .ok (.ifCond .lt 7, 3) := by decide +kernel
theorem d_CM_stash_12 : decode b_CM_stash 12 = .ok (.iconst 0, 1) := by decide +kernel
theorem d_CM_stash_13 : decode b_CM_stash 13 = .ok (.goto 4, 3) := by decide +kernel
theorem d_CM_stash_16 : decode b_CM_stash 16 = .ok (.iconst 1, 1) := by decide +kernel
theorem d_CM_stash_17 : decode b_CM_stash 17 = .ok (.putfield 86, 3) := by decide +kernel
theorem d_CM_stash_20 : decode b_CM_stash 20 = .ok (.aload_n 0, 1) := by decide +kernel
theorem d_CM_stash_21 : decode b_CM_stash 21 = .ok (.getfield 86, 3) := by decide +kernel
theorem d_CM_stash_24 : decode b_CM_stash 24 = .ok (.ifCond .le 7, 3) := by decide +kernel
theorem d_CM_stash_27 : decode b_CM_stash 27 = .ok (.iconst 0, 1) := by decide +kernel
theorem d_CM_stash_28 : decode b_CM_stash 28 = .ok (.goto 28, 3) := by decide +kernel
theorem d_CM_stash_31 : decode b_CM_stash 31 = .ok (.iload_n 2, 1) := by decide +kernel
theorem d_CM_stash_32 : decode b_CM_stash 32 = .ok (.aload_n 0, 1) := by decide +kernel
theorem d_CM_stash_33 : decode b_CM_stash 33 = .ok (.getfield 32, 3) := by decide +kernel
theorem d_CM_stash_36 : decode b_CM_stash 36 = .ok (.iload_n 1, 1) := by decide +kernel
theorem d_CM_stash_37 : decode b_CM_stash 37 = .ok (.iaload, 1) := by decide +kernel
theorem d_CM_stash_38 : decode b_CM_stash 38 = .ok (.if_icmp .ge 17, 3) := by decide +kernel
theorem d_CM_stash_41 : decode b_CM_stash 41 = .ok (.aload_n 0, 1) := by decide +kernel
theorem d_CM_stash_42 : decode b_CM_stash 42 = .ok (.getfield 23, 3) := by decide +kernel
theorem d_CM_stash_45 : decode b_CM_stash 45 = .ok (.bipush 80, 2) := by decide +kernel
theorem d_CM_stash_47 : decode b_CM_stash 47 = .ok (.iload_n 1, 1) := by decide +kernel
theorem d_CM_stash_48 : decode b_CM_stash 48 = .ok (.imul, 1) := by decide +kernel
theorem d_CM_stash_49 : decode b_CM_stash 49 = .ok (.iload_n 2, 1) := by decide +kernel
theorem d_CM_stash_50 : decode b_CM_stash 50 = .ok (.iadd, 1) := by decide +kernel
theorem d_CM_stash_51 : decode b_CM_stash 51 = .ok (.iaload, 1) := by decide +kernel
theorem d_CM_stash_52 : decode b_CM_stash 52 = .ok (.goto 4, 3) := by decide +kernel
theorem d_CM_stash_55 : decode b_CM_stash 55 = .ok (.iconst (-1), 1) := by decide +kernel
theorem d_CM_stash_56 : decode b_CM_stash 56 = .ok (.ireturn, 1) := by decide +kernel
theorem d_CM_count_0 : decode b_CM_count 0 = .ok (.aload_n 0, 1) := by decide +kernel
theorem d_CM_count_1 : decode b_CM_count 1 = .ok (.iload_n 1, 1) := by decide +kernel
theorem d_CM_count_2 : decode b_CM_count 2 = .ok (.ifCond .lt 13, 3) := by decide +kernel
theorem d_CM_count_5 : decode b_CM_count 5 = .ok (.iload_n 1, 1) := by decide +kernel
theorem d_CM_count_6 : decode b_CM_count 6 = .ok (.bipush 8, 2) := by decide +kernel
theorem d_CM_count_8 : decode b_CM_count 8 = .ok (.if_icmp .gt 7, 3) := by decide +kernel
theorem d_CM_count_11 : decode b_CM_count 11 = .ok (.iconst 0, 1) := by decide +kernel
theorem d_CM_count_12 : decode b_CM_count 12 = .ok (.goto 4, 3) := by decide +kernel
theorem d_CM_count_15 : decode b_CM_count 15 = .ok (.iconst 1, 1) := by decide +kernel
theorem d_CM_count_16 : decode b_CM_count 16 = .ok (.putfield 86, 3) := by decide +kernel
theorem d_CM_count_19 : decode b_CM_count 19 = .ok (.iload_n 1, 1) := by decide +kernel
theorem d_CM_count_20 : decode b_CM_count 20 = .ok (.tableswitch 98 0 8 #[52, 58, 64, 69, 74, 74, 83, 88, 93], 52) := by decide +kernel
theorem d_CM_count_72 : decode b_CM_count 72 = .ok (.aload_n 0, 1) := by decide +kernel
theorem d_CM_count_73 : decode b_CM_count 73 = .ok (.iconst 0, 1) := by decide +kernel
theorem d_CM_count_74 : decode b_CM_count 74 = .ok (.invokevirtual 82, 3) := by decide +kernel
theorem d_CM_count_77 : decode b_CM_count 77 = .ok (.ireturn, 1) := by decide +kernel
theorem d_CM_count_78 : decode b_CM_count 78 = .ok (.aload_n 0, 1) := by decide +kernel
theorem d_CM_count_79 : decode b_CM_count 79 = .ok (.iconst 1, 1) := by decide +kernel
theorem d_CM_count_80 : decode b_CM_count 80 = .ok (.invokevirtual 82, 3) := by decide +kernel
theorem d_CM_count_83 : decode b_CM_count 83 = .ok (.ireturn, 1) := by decide +kernel
theorem d_CM_count_84 : decode b_CM_count 84 = .ok (.aload_n 0, 1) := by decide +kernel
theorem d_CM_count_85 : decode b_CM_count 85 = .ok (.getfield 72, 3) := by decide +kernel
theorem d_CM_count_88 : decode b_CM_count 88 = .ok (.ireturn, 1) := by decide +kernel
theorem d_CM_count_89 : decode b_CM_count 89 = .ok (.aload_n 0, 1) := by decide +kernel
theorem d_CM_count_90 : decode b_CM_count 90 = .ok (.getfield 75, 3) := by decide +kernel
theorem d_CM_count_93 : decode b_CM_count 93 = .ok (.ireturn, 1) := by decide +kernel
theorem d_CM_count_94 : decode b_CM_count 94 = .ok (.aload_n 0, 1) := by decide +kernel
theorem d_CM_count_95 : decode b_CM_count 95 = .ok (.getfield 32, 3) := by decide +kernel
theorem d_CM_count_98 : decode b_CM_count 98 = .ok (.iload_n 1, 1) := by decide +kernel
theorem d_CM_count_99 : decode b_CM_count 99 = .ok (.iconst 4, 1) := by decide +kernel
theorem d_CM_count_100 : decode b_CM_count 100 = .ok (.isub, 1) := by decide +kernel
theorem d_CM_count_101 : decode b_CM_count 101 = .ok (.iaload, 1) := by decide +kernel
theorem d_CM_count_102 : decode b_CM_count 102 = .ok (.ireturn, 1) := by decide +kernel
theorem d_CM_count_103 : decode b_CM_count 103 = .ok (.aload_n 0, 1) := by decide +kernel
theorem d_CM_count_104 : decode b_CM_count 104 = .ok (.getfield 126, 3) := by decide +kernel
theorem d_CM_count_107 : decode b_CM_count 107 = .ok (.ireturn, 1) := by decide +kernel
theorem d_CM_count_108 : decode b_CM_count 108 = .ok (.aload_n 0, 1) := by decide +kernel
theorem d_CM_count_109 : decode b_CM_count 109 = .ok (.getfield 129, 3) := by decide +kernel
theorem d_CM_count_112 : decode b_CM_count 112 = .ok (.ireturn, 1) := by decide +kernel
theorem d_CM_count_113 : decode b_CM_count 113 = .ok (.aload_n 0, 1) := by decide +kernel
theorem d_CM_count_114 : decode b_CM_count 114 = .ok (.getfield 135, 3) := by decide +kernel
theorem d_CM_count_117 : decode b_CM_count 117 = .ok (.ireturn, 1) := by decide +kernel
theorem d_CM_count_118 : decode b_CM_count 118 = .ok (.iconst 0, 1) := by decide +kernel
theorem d_CM_count_119 : decode b_CM_count 119 = .ok (.ireturn, 1) := by decide +kernel

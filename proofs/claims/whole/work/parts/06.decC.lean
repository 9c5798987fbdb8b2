theorem d_CT_init_0 : decode b_CT_init 0 = .ok (.aload_n 0, 1) := by decide +kernel
theorem d_CT_init_1 : decode b_CT_init 1 = .ok (.invokespecial 1, 3) := by decide +kernel
theorem d_CT_init_4 : decode b_CT_init 4 = .ok (.aload_n 0, 1) := by decide +kernel
theorem d_CT_init_5 : decode b_CT_init 5 = .ok (.bipush 16, 2) := by decide +kernel
theorem d_CT_init_7 : decode b_CT_init 7 = .ok (.newarray .int, 2) := by decide +kernel
theorem d_CT_init_9 : decode b_CT_init 9 = .ok (.putfield 9, 3) := by decide +kernel
theorem d_CT_init_12 : decode b_CT_init 12 = .ok (.iload_n 1, 1) := by decide +kernel
theorem d_CT_init_13 : decode b_CT_init 13 = .ok (.iconst 1, 1) := by decide +kernel
theorem d_CT_init_14 : decode b_CT_init 14 = .ok (.iconst 5, 1) := by decide +kernel
theorem d_CT_init_15 : decode b_CT_init 15 = .ok (.invokestatic 13, 3) := by decide +kernel
theorem d_CT_init_18 : decode b_CT_init 18 = .ok (.istore 6, 2) := by decide +kernel
theorem d_CT_init_20 : decode b_CT_init 20 = .ok (.aload_n 0, 1) := by decide +kernel
theorem d_CT_init_21 : decode b_CT_init 21 = .ok (.iload_n 2, 1) := by decide +kernel
theorem d_CT_init_22 : decode b_CT_init 22 = .ok (.iconst 1, 1) := by decide +kernel
theorem d_CT_init_23 : decode b_CT_init 23 = .ok (.iconst 4, 1) := by decide +kernel
theorem d_CT_init_24 : decode b_CT_init 24 = .ok (.invokestatic 13, 3) := by decide +kernel
theorem d_CT_init_27 : decode b_CT_init 27 = .ok (.putfield 17, 3) := by decide +kernel
theorem d_CT_init_30 : decode b_CT_init 30 = .ok (.aload_n 0, 1) := by decide +kernel
theorem d_CT_init_31 : decode b_CT_init 31 = .ok (.iload_n 3, 1) := by decide +kernel
theorem d_CT_init_32 : decode b_CT_init 32 = .ok (.iconst 0, 1) := by decide +kernel
theorem d_CT_init_33 : decode b_CT_init 33 = .ok (.bipush 40, 2) := by decide +kernel
theorem d_CT_init_35 : decode b_CT_init 35 = .ok (.invokestatic 13, 3) := by decide +kernel
theorem d_CT_init_38 : decode b_CT_init 38 = .ok (.putfield 21, 3) := by decide +kernel
theorem d_CT_init_41 : decode b_CT_init 41 = .ok (.aload_n 0, 1) := by decide +kernel
theorem d_CT_init_42 : decode b_CT_init 42 = .ok (.lload 4, 2) := by decide +kernel
theorem d_CT_init_44 : decode b_CT_init 44 = .ok (.putfield 24, 3) := by decide +kernel
theorem d_CT_init_47 : decode b_CT_init 47 = .ok (.aload_n 0, 1) := by decide +kernel
theorem d_CT_init_48 : decode b_CT_init 48 = .ok (.new 28, 3) := by decide +kernel
theorem d_CT_init_51 : decode b_CT_init 51 = .ok (.dup, 1) := by decide +kernel
theorem d_CT_init_52 : decode b_CT_init 52 = .ok (.iload 6, 2) := by decide +kernel
theorem d_CT_init_54 : decode b_CT_init 54 = .ok (.aload_n 0, 1) := by decide +kernel
theorem d_CT_init_55 : decode b_CT_init 55 = .ok (.getfield 17, 3) := by decide +kernel
theorem d_CT_init_58 : decode b_CT_init 58 = .ok (.aload_n 0, 1) := by decide +kernel
theorem d_CT_init_59 : decode b_CT_init 59 = .ok (.getfield 21, 3) := by decide +kernel
theorem d_CT_init_62 : decode b_CT_init 62 = .ok (.bipush 64, 2) := by decide +kernel
theorem d_CT_init_64 : decode b_CT_init 64 = .ok (.invokespecial 30, 3) := by decide +kernel
theorem d_CT_init_67 : decode b_CT_init 67 = .ok (.putfield 33, 3) := by decide +kernel
theorem d_CT_init_70 : decode b_CT_init 70 = .ok (.aload_n 0, 1) := by decide +kernel
theorem d_CT_init_71 : decode b_CT_init 71 = .ok (.new 28, 3) := by decide +kernel
theorem d_CT_init_74 : decode b_CT_init 74 = .ok (.dup, 1) := by decide +kernel
theorem d_CT_init_75 : decode b_CT_init 75 = .ok (.iconst 1, 1) := by decide +kernel
theorem d_CT_init_76 : decode b_CT_init 76 = .ok (.iload 6, 2) := by decide +kernel
theorem d_CT_init_78 : decode b_CT_init 78 = .ok (.iconst 1, 1) := by decide +kernel
theorem d_CT_init_79 : decode b_CT_init 79 = .ok (.isub, 1) := by decide +kernel
theorem d_CT_init_80 : decode b_CT_init 80 = .ok (.invokestatic 37, 3) := by decide +kernel
theorem d_CT_init_83 : decode b_CT_init 83 = .ok (.aload_n 0, 1) := by decide +kernel
theorem d_CT_init_84 : decode b_CT_init 84 = .ok (.getfield 17, 3) := by decide +kernel
theorem d_CT_init_87 : decode b_CT_init 87 = .ok (.aload_n 0, 1) := by decide +kernel
theorem d_CT_init_88 : decode b_CT_init 88 = .ok (.getfield 21, 3) := by decide +kernel
theorem d_CT_init_91 : decode b_CT_init 91 = .ok (.bipush 16, 2) := by decide +kernel
theorem d_CT_init_93 : decode b_CT_init 93 = .ok (.invokespecial 30, 3) := by decide +kernel
theorem d_CT_init_96 : decode b_CT_init 96 = .ok (.putfield 43, 3) := by decide +kernel
theorem d_CT_init_99 : decode b_CT_init 99 = .ok (.iconst 0, 1) := by decide +kernel
theorem d_CT_init_100 : decode b_CT_init 100 = .ok (.istore 7, 2) := by decide +kernel
theorem d_CT_init_102 : decode b_CT_init 102 = .ok (.iload 7, 2) := by decide +kernel
theorem d_CT_init_104 : decode b_CT_init 104 = .ok (.bipush 16, 2) := by decide +kernel
theorem d_CT_init_106 : decode b_CT_init 106 = .ok (.if_icmp .ge 25, 3) := by decide +kernel
theorem d_CT_init_109 : decode b_CT_init 109 = .ok (.aload_n 0, 1) := by decide +kernel
theorem d_CT_init_110 : decode b_CT_init 110 = .ok (.getfield 9, 3) := by decide +kernel
theorem d_CT_init_113 : decode b_CT_init 113 = .ok (.iload 7, 2) := by decide +kernel
theorem d_CT_init_115 : decode b_CT_init 115 = .ok (.aload_n 0, 1) := by decide +kernel
theorem d_CT_init_116 : decode b_CT_init 116 = .ok (.getfield 43, 3) := by decide +kernel
theorem d_CT_init_119 : decode b_CT_init 119 = .ok (.iload 7, 2) := by decide +kernel
theorem d_CT_init_121 : decode b_CT_init 121 = .ok (.invokevirtual 46, 3) := by decide +kernel
theorem d_CT_init_124 : decode b_CT_init 124 = .ok (.iastore, 1) := by decide +kernel
theorem d_CT_init_125 : decode b_CT_init 125 = .ok (.iinc 7 1, 3) := by decide +kernel
theorem d_CT_init_128 : decode b_CT_init 128 = .ok (.goto (-26), 3) := by decide +kernel
theorem d_CT_init_131 : decode b_CT_init 131 = .ok (.return_, 1) := by decide +kernel
theorem d_CT_nearest_0 : decode b_CT_nearest 0 = .ok (.iload_n 1, 1) := by decide +kernel
theorem d_CT_nearest_1 : decode b_CT_nearest 1 = .ok (.iload_n 2, 1) := by decide +kernel
theorem d_CT_nearest_2 : decode b_CT_nearest 2 = .ok (.iload_n 0, 1) := by decide +kernel
theorem d_CT_nearest_3 : decode b_CT_nearest 3 = .ok (.invokestatic 175, 3) := by decide +kernel
theorem d_CT_nearest_6 : decode b_CT_nearest 6 = .ok (.invokestatic 37, 3) := by decide +kernel
theorem d_CT_nearest_9 : decode b_CT_nearest 9 = .ok (.ireturn, 1) := by decide +kernel
theorem d_CT_read_0 : decode b_CT_read 0 = .ok (.aload_n 0, 1) := by decide +kernel
theorem d_CT_read_1 : decode b_CT_read 1 = .ok (.iload_n 1, 1) := by decide +kernel
theorem d_CT_read_2 : decode b_CT_read 2 = .ok (.iconst 0, 1) := by decide +kernel
theorem d_CT_read_3 : decode b_CT_read 3 = .ok (.lconst 0, 1) := by decide +kernel
theorem d_CT_read_4 : decode b_CT_read 4 = .ok (.iload_n 2, 1) := by decide +kernel
theorem d_CT_read_5 : decode b_CT_read 5 = .ok (.iload_n 3, 1) := by decide +kernel
theorem d_CT_read_6 : decode b_CT_read 6 = .ok (.invokevirtual 50, 3) := by decide +kernel
theorem d_CT_read_9 : decode b_CT_read 9 = .ok (.lreturn, 1) := by decide +kernel
theorem d_CT_ask_0 : decode b_CT_ask 0 = .ok (.iload_n 1, 1) := by decide +kernel
theorem d_CT_ask_1 : decode b_CT_ask 1 = .ok (.ifCond .lt 9, 3) := by decide +kernel
theorem d_CT_ask_4 : decode b_CT_ask 4 = .ok (.iload_n 1, 1) := by decide +kernel
theorem d_CT_ask_5 : decode b_CT_ask 5 = .ok (.bipush 64, 2) := by decide +kernel
theorem d_CT_ask_7 : decode b_CT_ask 7 = .ok (.if_icmp .lt 13, 3) := by decide +kernel
theorem d_CT_ask_10 : decode b_CT_ask 10 = .ok (.new 67, 3) := by decide +kernel
theorem d_CT_ask_13 : decode b_CT_ask 13 = .ok (.dup, 1) := by decide +kernel
theorem d_CT_ask_14 : decode b_CT_ask 14 = .ok (.ldc 127, 2) := by decide +kernel
theorem d_CT_ask_16 : decode b_CT_ask 16 = .ok (.invokespecial 71, 3) := by decide +kernel
theorem d_CT_ask_19 : decode b_CT_ask 19 = .ok (.athrow, 1) := by decide +kernel
theorem d_CT_ask_20 : decode b_CT_ask 20 = .ok (.aload_n 0, 1) := by decide +kernel
theorem d_CT_ask_21 : decode b_CT_ask 21 = .ok (.getfield 33, 3) := by decide +kernel
theorem d_CT_ask_24 : decode b_CT_ask 24 = .ok (.iload 5, 2) := by decide +kernel
theorem d_CT_ask_26 : decode b_CT_ask 26 = .ok (.invokevirtual 129, 3) := by decide +kernel
theorem d_CT_ask_29 : decode b_CT_ask 29 = .ok (.ifCond .eq 15, 3) := by decide +kernel
theorem d_CT_ask_32 : decode b_CT_ask 32 = .ok (.aload_n 0, 1) := by decide +kernel
theorem d_CT_ask_33 : decode b_CT_ask 33 = .ok (.getfield 43, 3) := by decide +kernel
theorem d_CT_ask_36 : decode b_CT_ask 36 = .ok (.iload 6, 2) := by decide +kernel
theorem d_CT_ask_38 : decode b_CT_ask 38 = .ok (.invokevirtual 129, 3) := by decide +kernel
theorem d_CT_ask_41 : decode b_CT_ask 41 = .ok (.ifCond .ne 13, 3) := by decide +kernel
theorem d_CT_ask_44 : decode b_CT_ask 44 = .ok (.new 132, 3) := by decide +kernel
theorem d_CT_ask_47 : decode b_CT_ask 47 = .ok (.dup, 1) := by decide +kernel
theorem d_CT_ask_48 : decode b_CT_ask 48 = .ok (.ldc 134, 2) := by decide +kernel
theorem d_CT_ask_50 : decode b_CT_ask 50 = .ok (.invokespecial 136, 3) := by decide +kernel
theorem d_CT_ask_53 : decode b_CT_ask 53 = .ok (.athrow, 1) := by decide +kernel
theorem d_CT_ask_54 : decode b_CT_ask 54 = .ok (.iload_n 1, 1) := by decide +kernel
theorem d_CT_ask_55 : decode b_CT_ask 55 = .ok (.iconst 4, 1) := by decide +kernel
theorem d_CT_ask_56 : decode b_CT_ask 56 = .ok (.idiv, 1) := by decide +kernel
theorem d_CT_ask_57 : decode b_CT_ask 57 = .ok (.istore 7, 2) := by decide +kernel
theorem d_CT_ask_59 : decode b_CT_ask 59 = .ok (.iload_n 1, 1) := by decide +kernel
theorem d_CT_ask_60 : decode b_CT_ask 60 = .ok (.iconst 4, 1) := by decide +kernel
theorem d_CT_ask_61 : decode b_CT_ask 61 = .ok (.irem, 1) := by decide +kernel
theorem d_CT_ask_62 : decode b_CT_ask 62 = .ok (.bipush 16, 2) := by decide +kernel
theorem d_CT_ask_64 : decode b_CT_ask 64 = .ok (.imul, 1) := by decide +kernel
theorem d_CT_ask_65 : decode b_CT_ask 65 = .ok (.istore 8, 2) := by decide +kernel
theorem d_CT_ask_67 : decode b_CT_ask 67 = .ok (.aload_n 0, 1) := by decide +kernel
theorem d_CT_ask_68 : decode b_CT_ask 68 = .ok (.getfield 43, 3) := by decide +kernel
theorem d_CT_ask_71 : decode b_CT_ask 71 = .ok (.iload 7, 2) := by decide +kernel
theorem d_CT_ask_73 : decode b_CT_ask 73 = .ok (.aload_n 0, 1) := by decide +kernel
theorem d_CT_ask_74 : decode b_CT_ask 74 = .ok (.getfield 9, 3) := by decide +kernel
theorem d_CT_ask_77 : decode b_CT_ask 77 = .ok (.iload 7, 2) := by decide +kernel
theorem d_CT_ask_79 : decode b_CT_ask 79 = .ok (.iaload, 1) := by decide +kernel
theorem d_CT_ask_80 : decode b_CT_ask 80 = .ok (.invokevirtual 137, 3) := by decide +kernel
theorem d_CT_ask_83 : decode b_CT_ask 83 = .ok (.aload_n 0, 1) := by decide +kernel
theorem d_CT_ask_84 : decode b_CT_ask 84 = .ok (.getfield 43, 3) := by decide +kernel
theorem d_CT_ask_87 : decode b_CT_ask 87 = .ok (.invokevirtual 141, 3) := by decide +kernel
theorem d_CT_ask_90 : decode b_CT_ask 90 = .ok (.lstore 9, 2) := by decide +kernel
theorem d_CT_ask_92 : decode b_CT_ask 92 = .ok (.aload_n 0, 1) := by decide +kernel
theorem d_CT_ask_93 : decode b_CT_ask 93 = .ok (.getfield 43, 3) := by decide +kernel
theorem d_CT_ask_96 : decode b_CT_ask 96 = .ok (.iload 6, 2) := by decide +kernel
theorem d_CT_ask_98 : decode b_CT_ask 98 = .ok (.lload 9, 2) := by decide +kernel
theorem d_CT_ask_100 : decode b_CT_ask 100 = .ok (.iload 8, 2) := by decide +kernel
theorem d_CT_ask_102 : decode b_CT_ask 102 = .ok (.iload 5, 2) := by decide +kernel
theorem d_CT_ask_104 : decode b_CT_ask 104 = .ok (.iconst 1, 1) := by decide +kernel
theorem d_CT_ask_105 : decode b_CT_ask 105 = .ok (.iadd, 1) := by decide +kernel
theorem d_CT_ask_106 : decode b_CT_ask 106 = .ok (.invokestatic 145, 3) := by decide +kernel
theorem d_CT_ask_109 : decode b_CT_ask 109 = .ok (.invokevirtual 149, 3) := by decide +kernel
theorem d_CT_ask_112 : decode b_CT_ask 112 = .ok (.aload_n 0, 1) := by decide +kernel
theorem d_CT_ask_113 : decode b_CT_ask 113 = .ok (.getfield 33, 3) := by decide +kernel
theorem d_CT_ask_116 : decode b_CT_ask 116 = .ok (.iload_n 1, 1) := by decide +kernel
theorem d_CT_ask_117 : decode b_CT_ask 117 = .ok (.aload_n 0, 1) := by decide +kernel
theorem d_CT_ask_118 : decode b_CT_ask 118 = .ok (.lload 9, 2) := by decide +kernel
theorem d_CT_ask_120 : decode b_CT_ask 120 = .ok (.iload 8, 2) := by decide +kernel
theorem d_CT_ask_122 : decode b_CT_ask 122 = .ok (.iload_n 1, 1) := by decide +kernel
theorem d_CT_ask_123 : decode b_CT_ask 123 = .ok (.invokevirtual 153, 3) := by decide +kernel
theorem d_CT_ask_126 : decode b_CT_ask 126 = .ok (.invokevirtual 137, 3) := by decide +kernel
theorem d_CT_ask_129 : decode b_CT_ask 129 = .ok (.aload_n 0, 1) := by decide +kernel
theorem d_CT_ask_130 : decode b_CT_ask 130 = .ok (.getfield 33, 3) := by decide +kernel
theorem d_CT_ask_133 : decode b_CT_ask 133 = .ok (.invokevirtual 141, 3) := by decide +kernel
theorem d_CT_ask_136 : decode b_CT_ask 136 = .ok (.lstore 11, 2) := by decide +kernel
theorem d_CT_ask_138 : decode b_CT_ask 138 = .ok (.aload_n 0, 1) := by decide +kernel
theorem d_CT_ask_139 : decode b_CT_ask 139 = .ok (.getfield 33, 3) := by decide +kernel
theorem d_CT_ask_142 : decode b_CT_ask 142 = .ok (.iload 5, 2) := by decide +kernel
theorem d_CT_ask_144 : decode b_CT_ask 144 = .ok (.iload_n 2, 1) := by decide +kernel
theorem d_CT_ask_145 : decode b_CT_ask 145 = .ok (.ifCond .eq 7, 3) := by decide +kernel
theorem d_CT_ask_148 : decode b_CT_ask 148 = .ok (.lload_n 3, 1) := by decide +kernel
theorem d_CT_ask_149 : decode b_CT_ask 149 = .ok (.goto 5, 3) := by decide +kernel
theorem d_CT_ask_152 : decode b_CT_ask 152 = .ok (.lload 11, 2) := by decide +kernel
theorem d_CT_ask_154 : decode b_CT_ask 154 = .ok (.invokevirtual 149, 3) := by decide +kernel
theorem d_CT_ask_157 : decode b_CT_ask 157 = .ok (.aload_n 0, 1) := by decide +kernel
theorem d_CT_ask_158 : decode b_CT_ask 158 = .ok (.getfield 43, 3) := by decide +kernel
theorem d_CT_ask_161 : decode b_CT_ask 161 = .ok (.invokevirtual 157, 3) := by decide +kernel
theorem d_CT_ask_164 : decode b_CT_ask 164 = .ok (.ifCond .eq 13, 3) := by decide +kernel
theorem d_CT_ask_167 : decode b_CT_ask 167 = .ok (.aload_n 0, 1) := by decide +kernel
theorem d_CT_ask_168 : decode b_CT_ask 168 = .ok (.getfield 33, 3) := by decide +kernel
theorem d_CT_ask_171 : decode b_CT_ask 171 = .ok (.invokevirtual 157, 3) := by decide +kernel
theorem d_CT_ask_174 : decode b_CT_ask 174 = .ok (.ifCond .ne 13, 3) := by decide +kernel
theorem d_CT_ask_177 : decode b_CT_ask 177 = .ok (.new 161, 3) := by decide +kernel
theorem d_CT_ask_180 : decode b_CT_ask 180 = .ok (.dup, 1) := by decide +kernel
theorem d_CT_ask_181 : decode b_CT_ask 181 = .ok (.ldc 163, 2) := by decide +kernel
theorem d_CT_ask_183 : decode b_CT_ask 183 = .ok (.invokespecial 165, 3) := by decide +kernel
theorem d_CT_ask_186 : decode b_CT_ask 186 = .ok (.athrow, 1) := by decide +kernel
theorem d_CT_ask_187 : decode b_CT_ask 187 = .ok (.aload_n 0, 1) := by decide +kernel
theorem d_CT_ask_188 : decode b_CT_ask 188 = .ok (.getfield 43, 3) := by decide +kernel
theorem d_CT_ask_191 : decode b_CT_ask 191 = .ok (.invokevirtual 166, 3) := by decide +kernel
theorem d_CT_ask_194 : decode b_CT_ask 194 = .ok (.aload_n 0, 1) := by decide +kernel
theorem d_CT_ask_195 : decode b_CT_ask 195 = .ok (.getfield 33, 3) := by decide +kernel
theorem d_CT_ask_198 : decode b_CT_ask 198 = .ok (.invokevirtual 166, 3) := by decide +kernel
theorem d_CT_ask_201 : decode b_CT_ask 201 = .ok (.aload_n 0, 1) := by decide +kernel
theorem d_CT_ask_202 : decode b_CT_ask 202 = .ok (.getfield 9, 3) := by decide +kernel
theorem d_CT_ask_205 : decode b_CT_ask 205 = .ok (.iload 7, 2) := by decide +kernel
theorem d_CT_ask_207 : decode b_CT_ask 207 = .ok (.iload 6, 2) := by decide +kernel
theorem d_CT_ask_209 : decode b_CT_ask 209 = .ok (.iastore, 1) := by decide +kernel
theorem d_CT_ask_210 : decode b_CT_ask 210 = .ok (.aload_n 0, 1) := by decide +kernel
theorem d_CT_ask_211 : decode b_CT_ask 211 = .ok (.dup, 1) := by decide +kernel
theorem d_CT_ask_212 : decode b_CT_ask 212 = .ok (.getfield 122, 3) := by decide +kernel
theorem d_CT_ask_215 : decode b_CT_ask 215 = .ok (.iconst 1, 1) := by decide +kernel
theorem d_CT_ask_216 : decode b_CT_ask 216 = .ok (.iadd, 1) := by decide +kernel
theorem d_CT_ask_217 : decode b_CT_ask 217 = .ok (.putfield 122, 3) := by decide +kernel
theorem d_CT_ask_220 : decode b_CT_ask 220 = .ok (.aload_n 0, 1) := by decide +kernel
theorem d_CT_ask_221 : decode b_CT_ask 221 = .ok (.aload_n 0, 1) := by decide +kernel
theorem d_CT_ask_222 : decode b_CT_ask 222 = .ok (.getfield 119, 3) := by decide +kernel
theorem d_CT_ask_225 : decode b_CT_ask 225 = .ok (.aload_n 0, 1) := by decide +kernel
theorem d_CT_ask_226 : decode b_CT_ask 226 = .ok (.getfield 33, 3) := by decide +kernel
theorem d_CT_ask_229 : decode b_CT_ask 229 = .ok (.getfield 102, 3) := by decide +kernel
theorem d_CT_ask_232 : decode b_CT_ask 232 = .ok (.getfield 108, 3) := by decide +kernel
theorem d_CT_ask_235 : decode b_CT_ask 235 = .ok (.invokestatic 37, 3) := by decide +kernel
theorem d_CT_ask_238 : decode b_CT_ask 238 = .ok (.putfield 119, 3) := by decide +kernel
theorem d_CT_ask_241 : decode b_CT_ask 241 = .ok (.lload 11, 2) := by decide +kernel
theorem d_CT_ask_243 : decode b_CT_ask 243 = .ok (.lreturn, 1) := by decide +kernel
theorem d_CT_withNumber_0 : decode b_CT_withNumber 0 = .ok (.lload_n 0, 1) := by decide +kernel
theorem d_CT_withNumber_1 : decode b_CT_withNumber 1 = .ok (.ldc2_w 169, 3) := by decide +kernel
theorem d_CT_withNumber_4 : decode b_CT_withNumber 4 = .ok (.iload_n 2, 1) := by decide +kernel
theorem d_CT_withNumber_5 : decode b_CT_withNumber 5 = .ok (.lshl, 1) := by decide +kernel
theorem d_CT_withNumber_6 : decode b_CT_withNumber 6 = .ok (.ldc2_w 173, 3) := by decide +kernel
theorem d_CT_withNumber_9 : decode b_CT_withNumber 9 = .ok (.lxor, 1) := by decide +kernel
theorem d_CT_withNumber_10 : decode b_CT_withNumber 10 = .ok (.land, 1) := by decide +kernel
theorem d_CT_withNumber_11 : decode b_CT_withNumber 11 = .ok (.iload_n 3, 1) := by decide +kernel
theorem d_CT_withNumber_12 : decode b_CT_withNumber 12 = .ok (.i2l, 1) := by decide +kernel
theorem d_CT_withNumber_13 : decode b_CT_withNumber 13 = .ok (.iload_n 2, 1) := by decide +kernel
theorem d_CT_withNumber_14 : decode b_CT_withNumber 14 = .ok (.lshl, 1) := by decide +kernel
theorem d_CT_withNumber_15 : decode b_CT_withNumber 15 = .ok (.lor, 1) := by decide +kernel
theorem d_CT_withNumber_16 : decode b_CT_withNumber 16 = .ok (.lreturn, 1) := by decide +kernel
theorem d_CT_leafTold_0 : decode b_CT_leafTold 0 = .ok (.lload_n 1, 1) := by decide +kernel
theorem d_CT_leafTold_1 : decode b_CT_leafTold 1 = .ok (.iload_n 3, 1) := by decide +kernel
theorem d_CT_leafTold_2 : decode b_CT_leafTold 2 = .ok (.lushr, 1) := by decide +kernel
theorem d_CT_leafTold_3 : decode b_CT_leafTold 3 = .ok (.ldc2_w 169, 3) := by decide +kernel
theorem d_CT_leafTold_6 : decode b_CT_leafTold 6 = .ok (.land, 1) := by decide +kernel
theorem d_CT_leafTold_7 : decode b_CT_leafTold 7 = .ok (.l2i, 1) := by decide +kernel
theorem d_CT_leafTold_8 : decode b_CT_leafTold 8 = .ok (.istore 5, 2) := by decide +kernel
theorem d_CT_leafTold_10 : decode b_CT_leafTold 10 = .ok (.aload_n 0, 1) := by decide +kernel
theorem d_CT_leafTold_11 : decode b_CT_leafTold 11 = .ok (.getfield 33, 3) := by decide +kernel
theorem d_CT_leafTold_14 : decode b_CT_leafTold 14 = .ok (.iload 5, 2) := by decide +kernel
theorem d_CT_leafTold_16 : decode b_CT_leafTold 16 = .ok (.ifCond .ne 8, 3) := by decide +kernel
theorem d_CT_leafTold_19 : decode b_CT_leafTold 19 = .ok (.iload 4, 2) := by decide +kernel
theorem d_CT_leafTold_21 : decode b_CT_leafTold 21 = .ok (.goto 7, 3) := by decide +kernel
theorem d_CT_leafTold_24 : decode b_CT_leafTold 24 = .ok (.iload 5, 2) := by decide +kernel
theorem d_CT_leafTold_26 : decode b_CT_leafTold 26 = .ok (.iconst 1, 1) := by decide +kernel
theorem d_CT_leafTold_27 : decode b_CT_leafTold 27 = .ok (.isub, 1) := by decide +kernel
theorem d_CT_leafTold_28 : decode b_CT_leafTold 28 = .ok (.invokevirtual 46, 3) := by decide +kernel
theorem d_CT_leafTold_31 : decode b_CT_leafTold 31 = .ok (.ireturn, 1) := by decide +kernel
theorem d_CT_write_0 : decode b_CT_write 0 = .ok (.aload_n 0, 1) := by decide +kernel
theorem d_CT_write_1 : decode b_CT_write 1 = .ok (.iload_n 1, 1) := by decide +kernel
theorem d_CT_write_2 : decode b_CT_write 2 = .ok (.iconst 1, 1) := by decide +kernel
theorem d_CT_write_3 : decode b_CT_write 3 = .ok (.lload_n 2, 1) := by decide +kernel
theorem d_CT_write_4 : decode b_CT_write 4 = .ok (.iload 4, 2) := by decide +kernel
theorem d_CT_write_6 : decode b_CT_write 6 = .ok (.iload 5, 2) := by decide +kernel
theorem d_CT_write_8 : decode b_CT_write 8 = .ok (.invokevirtual 50, 3) := by decide +kernel
theorem d_CT_write_11 : decode b_CT_write 11 = .ok (.lreturn, 1) := by decide +kernel
theorem d_CT_trace_0 : decode b_CT_trace 0 = .ok (.aload_n 0, 1) := by decide +kernel
theorem d_CT_trace_1 : decode b_CT_trace 1 = .ok (.iload_n 1, 1) := by decide +kernel
theorem d_CT_trace_2 : decode b_CT_trace 2 = .ok (.invokevirtual 54, 3) := by decide +kernel
theorem d_CT_trace_5 : decode b_CT_trace 5 = .ok (.getfield 58, 3) := by decide +kernel
theorem d_CT_trace_8 : decode b_CT_trace 8 = .ok (.astore_n 3, 1) := by decide +kernel
theorem d_CT_trace_9 : decode b_CT_trace 9 = .ok (.iload_n 2, 1) := by decide +kernel
theorem d_CT_trace_10 : decode b_CT_trace 10 = .ok (.ifCond .lt 11, 3) := by decide +kernel
theorem d_CT_trace_13 : decode b_CT_trace 13 = .ok (.iload_n 2, 1) := by decide +kernel
theorem d_CT_trace_14 : decode b_CT_trace 14 = .ok (.aload_n 3, 1) := by decide +kernel
theorem d_CT_trace_15 : decode b_CT_trace 15 = .ok (.getfield 62, 3) := by decide +kernel
theorem d_CT_trace_18 : decode b_CT_trace 18 = .ok (.if_icmp .lt 13, 3) := by decide +kernel
theorem d_CT_trace_21 : decode b_CT_trace 21 = .ok (.new 67, 3) := by decide +kernel
theorem d_CT_trace_24 : decode b_CT_trace 24 = .ok (.dup, 1) := by decide +kernel
theorem d_CT_trace_25 : decode b_CT_trace 25 = .ok (.ldc 69, 2) := by decide +kernel
theorem d_CT_trace_27 : decode b_CT_trace 27 = .ok (.invokespecial 71, 3) := by decide +kernel
theorem d_CT_trace_30 : decode b_CT_trace 30 = .ok (.athrow, 1) := by decide +kernel
theorem d_CT_trace_31 : decode b_CT_trace 31 = .ok (.aload_n 3, 1) := by decide +kernel
theorem d_CT_trace_32 : decode b_CT_trace 32 = .ok (.iload_n 2, 1) := by decide +kernel
theorem d_CT_trace_33 : decode b_CT_trace 33 = .ok (.invokevirtual 74, 3) := by decide +kernel
theorem d_CT_trace_36 : decode b_CT_trace 36 = .ok (.ireturn, 1) := by decide +kernel
theorem d_CT_treeNumbered_0 : decode b_CT_treeNumbered 0 = .ok (.iload_n 1, 1) := by decide +kernel
theorem d_CT_treeNumbered_1 : decode b_CT_treeNumbered 1 = .ok (.ifCond .lt 8, 3) := by decide +kernel
theorem d_CT_treeNumbered_4 : decode b_CT_treeNumbered 4 = .ok (.iload_n 1, 1) := by decide +kernel
theorem d_CT_treeNumbered_5 : decode b_CT_treeNumbered 5 = .ok (.iconst 1, 1) := by decide +kernel
theorem d_CT_treeNumbered_6 : decode b_CT_treeNumbered 6 = .ok (.if_icmp .le 13, 3) := by decide +kernel
theorem d_CT_treeNumbered_9 : decode b_CT_treeNumbered 9 = .ok (.new 67, 3) := by decide +kernel
theorem d_CT_treeNumbered_12 : decode b_CT_treeNumbered 12 = .ok (.dup, 1) := by decide +kernel
theorem d_CT_treeNumbered_13 : decode b_CT_treeNumbered 13 = .ok (.ldc 171, 2) := by decide +kernel
theorem d_CT_treeNumbered_15 : decode b_CT_treeNumbered 15 = .ok (.invokespecial 71, 3) := by decide +kernel
theorem d_CT_treeNumbered_18 : decode b_CT_treeNumbered 18 = .ok (.athrow, 1) := by decide +kernel
theorem d_CT_treeNumbered_19 : decode b_CT_treeNumbered 19 = .ok (.iload_n 1, 1) := by decide +kernel
theorem d_CT_treeNumbered_20 : decode b_CT_treeNumbered 20 = .ok (.ifCond .ne 10, 3) := by decide +kernel
theorem d_CT_treeNumbered_23 : decode b_CT_treeNumbered 23 = .ok (.aload_n 0, 1) := by decide +kernel
theorem d_CT_treeNumbered_24 : decode b_CT_treeNumbered 24 = .ok (.getfield 33, 3) := by decide +kernel
theorem d_CT_treeNumbered_27 : decode b_CT_treeNumbered 27 = .ok (.goto 7, 3) := by decide +kernel
theorem d_CT_treeNumbered_30 : decode b_CT_treeNumbered 30 = .ok (.aload_n 0, 1) := by decide +kernel
theorem d_CT_treeNumbered_31 : decode b_CT_treeNumbered 31 = .ok (.getfield 43, 3) := by decide +kernel
theorem d_CT_treeNumbered_34 : decode b_CT_treeNumbered 34 = .ok (.areturn, 1) := by decide +kernel
theorem d_CT_stored_0 : decode b_CT_stored 0 = .ok (.aload_n 0, 1) := by decide +kernel
theorem d_CT_stored_1 : decode b_CT_stored 1 = .ok (.iload_n 1, 1) := by decide +kernel
theorem d_CT_stored_2 : decode b_CT_stored 2 = .ok (.invokevirtual 54, 3) := by decide +kernel
theorem d_CT_stored_5 : decode b_CT_stored 5 = .ok (.astore 5, 2) := by decide +kernel
theorem d_CT_stored_7 : decode b_CT_stored 7 = .ok (.aload 5, 2) := by decide +kernel
theorem d_CT_stored_9 : decode b_CT_stored 9 = .ok (.iload_n 2, 1) := by decide +kernel
theorem d_CT_stored_10 : decode b_CT_stored 10 = .ok (.invokevirtual 77, 3) := by decide +kernel
theorem d_CT_stored_13 : decode b_CT_stored 13 = .ok (.ifCond .ne 13, 3) := by decide +kernel
theorem d_CT_stored_16 : decode b_CT_stored 16 = .ok (.new 67, 3) := by decide +kernel
theorem d_CT_stored_19 : decode b_CT_stored 19 = .ok (.dup, 1) := by decide +kernel
theorem d_CT_stored_20 : decode b_CT_stored 20 = .ok (.ldc 81, 2) := by decide +kernel
theorem d_CT_stored_22 : decode b_CT_stored 22 = .ok (.invokespecial 71, 3) := by decide +kernel
theorem d_CT_stored_25 : decode b_CT_stored 25 = .ok (.athrow, 1) := by decide +kernel
theorem d_CT_stored_26 : decode b_CT_stored 26 = .ok (.iload_n 3, 1) := by decide +kernel
theorem d_CT_stored_27 : decode b_CT_stored 27 = .ok (.ifCond .lt 11, 3) := by decide +kernel
theorem d_CT_stored_30 : decode b_CT_stored 30 = .ok (.iload_n 3, 1) := by decide +kernel
theorem d_CT_stored_31 : decode b_CT_stored 31 = .ok (.aload_n 0, 1) := by decide +kernel
theorem d_CT_stored_32 : decode b_CT_stored 32 = .ok (.getfield 17, 3) := by decide +kernel
theorem d_CT_stored_35 : decode b_CT_stored 35 = .ok (.if_icmp .lt 13, 3) := by decide +kernel
theorem d_CT_stored_38 : decode b_CT_stored 38 = .ok (.new 67, 3) := by decide +kernel
theorem d_CT_stored_41 : decode b_CT_stored 41 = .ok (.dup, 1) := by decide +kernel
theorem d_CT_stored_42 : decode b_CT_stored 42 = .ok (.ldc 83, 2) := by decide +kernel
theorem d_CT_stored_44 : decode b_CT_stored 44 = .ok (.invokespecial 71, 3) := by decide +kernel
theorem d_CT_stored_47 : decode b_CT_stored 47 = .ok (.athrow, 1) := by decide +kernel
theorem d_CT_stored_48 : decode b_CT_stored 48 = .ok (.iload 4, 2) := by decide +kernel
theorem d_CT_stored_50 : decode b_CT_stored 50 = .ok (.ifCond .lt 9, 3) := by decide +kernel
theorem d_CT_stored_53 : decode b_CT_stored 53 = .ok (.iload 4, 2) := by decide +kernel
theorem d_CT_stored_55 : decode b_CT_stored 55 = .ok (.iconst 3, 1) := by decide +kernel
theorem d_CT_stored_56 : decode b_CT_stored 56 = .ok (.if_icmp .lt 13, 3) := by decide +kernel
theorem d_CT_stored_59 : decode b_CT_stored 59 = .ok (.new 67, 3) := by decide +kernel
theorem d_CT_stored_62 : decode b_CT_stored 62 = .ok (.dup, 1) := by decide +kernel
theorem d_CT_stored_63 : decode b_CT_stored 63 = .ok (.ldc 85, 2) := by decide +kernel
theorem d_CT_stored_65 : decode b_CT_stored 65 = .ok (.invokespecial 71, 3) := by decide +kernel
theorem d_CT_stored_68 : decode b_CT_stored 68 = .ok (.athrow, 1) := by decide +kernel
theorem d_CT_stored_69 : decode b_CT_stored 69 = .ok (.iload_n 1, 1) := by decide +kernel
theorem d_CT_stored_70 : decode b_CT_stored 70 = .ok (.bipush 64, 2) := by decide +kernel
theorem d_CT_stored_72 : decode b_CT_stored 72 = .ok (.imul, 1) := by decide +kernel
theorem d_CT_stored_73 : decode b_CT_stored 73 = .ok (.iload_n 2, 1) := by decide +kernel
theorem d_CT_stored_74 : decode b_CT_stored 74 = .ok (.iadd, 1) := by decide +kernel
theorem d_CT_stored_75 : decode b_CT_stored 75 = .ok (.iconst 4, 1) := by decide +kernel
theorem d_CT_stored_76 : decode b_CT_stored 76 = .ok (.imul, 1) := by decide +kernel
theorem d_CT_stored_77 : decode b_CT_stored 77 = .ok (.iload_n 3, 1) := by decide +kernel
theorem d_CT_stored_78 : decode b_CT_stored 78 = .ok (.iadd, 1) := by decide +kernel
theorem d_CT_stored_79 : decode b_CT_stored 79 = .ok (.iconst 4, 1) := by decide +kernel
theorem d_CT_stored_80 : decode b_CT_stored 80 = .ok (.imul, 1) := by decide +kernel
theorem d_CT_stored_81 : decode b_CT_stored 81 = .ok (.iload 4, 2) := by decide +kernel
theorem d_CT_stored_83 : decode b_CT_stored 83 = .ok (.iadd, 1) := by decide +kernel
theorem d_CT_stored_84 : decode b_CT_stored 84 = .ok (.i2l, 1) := by decide +kernel
theorem d_CT_stored_85 : decode b_CT_stored 85 = .ok (.lstore 6, 2) := by decide +kernel
theorem d_CT_stored_87 : decode b_CT_stored 87 = .ok (.aload 5, 2) := by decide +kernel
theorem d_CT_stored_89 : decode b_CT_stored 89 = .ok (.iload_n 2, 1) := by decide +kernel
theorem d_CT_stored_90 : decode b_CT_stored 90 = .ok (.iload_n 3, 1) := by decide +kernel
theorem d_CT_stored_91 : decode b_CT_stored 91 = .ok (.iload 4, 2) := by decide +kernel
theorem d_CT_stored_93 : decode b_CT_stored 93 = .ok (.invokevirtual 87, 3) := by decide +kernel
theorem d_CT_stored_96 : decode b_CT_stored 96 = .ok (.aload_n 0, 1) := by decide +kernel
theorem d_CT_stored_97 : decode b_CT_stored 97 = .ok (.getfield 24, 3) := by decide +kernel
theorem d_CT_stored_100 : decode b_CT_stored 100 = .ok (.ldc2_w 91, 3) := by decide +kernel
theorem d_CT_stored_103 : decode b_CT_stored 103 = .ok (.lload 6, 2) := by decide +kernel
theorem d_CT_stored_105 : decode b_CT_stored 105 = .ok (.lmul, 1) := by decide +kernel
theorem d_CT_stored_106 : decode b_CT_stored 106 = .ok (.ladd, 1) := by decide +kernel
theorem d_CT_stored_107 : decode b_CT_stored 107 = .ok (.ldc2_w 93, 3) := by decide +kernel
theorem d_CT_stored_110 : decode b_CT_stored 110 = .ok (.aload 5, 2) := by decide +kernel
theorem d_CT_stored_112 : decode b_CT_stored 112 = .ok (.iload_n 2, 1) := by decide +kernel
theorem d_CT_stored_113 : decode b_CT_stored 113 = .ok (.invokevirtual 95, 3) := by decide +kernel
theorem d_CT_stored_116 : decode b_CT_stored 116 = .ok (.i2l, 1) := by decide +kernel
theorem d_CT_stored_117 : decode b_CT_stored 117 = .ok (.lmul, 1) := by decide +kernel
theorem d_CT_stored_118 : decode b_CT_stored 118 = .ok (.ladd, 1) := by decide +kernel
theorem d_CT_stored_119 : decode b_CT_stored 119 = .ok (.invokestatic 98, 3) := by decide +kernel
theorem d_CT_stored_122 : decode b_CT_stored 122 = .ok (.lxor, 1) := by decide +kernel
theorem d_CT_stored_123 : decode b_CT_stored 123 = .ok (.lreturn, 1) := by decide +kernel
theorem d_CT_mix_0 : decode b_CT_mix 0 = .ok (.lload_n 0, 1) := by decide +kernel
theorem d_CT_mix_1 : decode b_CT_mix 1 = .ok (.lload_n 0, 1) := by decide +kernel
theorem d_CT_mix_2 : decode b_CT_mix 2 = .ok (.bipush 30, 2) := by decide +kernel
theorem d_CT_mix_4 : decode b_CT_mix 4 = .ok (.lushr, 1) := by decide +kernel
theorem d_CT_mix_5 : decode b_CT_mix 5 = .ok (.lxor, 1) := by decide +kernel
theorem d_CT_mix_6 : decode b_CT_mix 6 = .ok (.ldc2_w 178, 3) := by decide +kernel
theorem d_CT_mix_9 : decode b_CT_mix 9 = .ok (.lmul, 1) := by decide +kernel
theorem d_CT_mix_10 : decode b_CT_mix 10 = .ok (.lstore_n 2, 1) := by decide +kernel
theorem d_CT_mix_11 : decode b_CT_mix 11 = .ok (.lload_n 2, 1) := by decide +kernel
theorem d_CT_mix_12 : decode b_CT_mix 12 = .ok (.lload_n 2, 1) := by decide +kernel
theorem d_CT_mix_13 : decode b_CT_mix 13 = .ok (.bipush 27, 2) := by decide +kernel
theorem d_CT_mix_15 : decode b_CT_mix 15 = .ok (.lushr, 1) := by decide +kernel
theorem d_CT_mix_16 : decode b_CT_mix 16 = .ok (.lxor, 1) := by decide +kernel
theorem d_CT_mix_17 : decode b_CT_mix 17 = .ok (.ldc2_w 180, 3) := by decide +kernel
theorem d_CT_mix_20 : decode b_CT_mix 20 = .ok (.lmul, 1) := by decide +kernel
theorem d_CT_mix_21 : decode b_CT_mix 21 = .ok (.lstore 4, 2) := by decide +kernel
theorem d_CT_mix_23 : decode b_CT_mix 23 = .ok (.lload 4, 2) := by decide +kernel
theorem d_CT_mix_25 : decode b_CT_mix 25 = .ok (.lload 4, 2) := by decide +kernel
theorem d_CT_mix_27 : decode b_CT_mix 27 = .ok (.bipush 31, 2) := by decide +kernel
theorem d_CT_mix_29 : decode b_CT_mix 29 = .ok (.lushr, 1) := by decide +kernel
theorem d_CT_mix_30 : decode b_CT_mix 30 = .ok (.lxor, 1) := by decide +kernel
theorem d_CT_mix_31 : decode b_CT_mix 31 = .ok (.lreturn, 1) := by decide +kernel
theorem d_CT_written_0 : decode b_CT_written 0 = .ok (.aload_n 0, 1) := by decide +kernel
theorem d_CT_written_1 : decode b_CT_written 1 = .ok (.iload_n 1, 1) := by decide +kernel
theorem d_CT_written_2 : decode b_CT_written 2 = .ok (.invokevirtual 54, 3) := by decide +kernel
theorem d_CT_written_5 : decode b_CT_written 5 = .ok (.astore_n 3, 1) := by decide +kernel
theorem d_CT_written_6 : decode b_CT_written 6 = .ok (.aload_n 3, 1) := by decide +kernel
theorem d_CT_written_7 : decode b_CT_written 7 = .ok (.iload_n 2, 1) := by decide +kernel
theorem d_CT_written_8 : decode b_CT_written 8 = .ok (.invokevirtual 77, 3) := by decide +kernel
theorem d_CT_written_11 : decode b_CT_written 11 = .ok (.ifCond .ne 13, 3) := by decide +kernel
theorem d_CT_written_14 : decode b_CT_written 14 = .ok (.new 67, 3) := by decide +kernel
theorem d_CT_written_17 : decode b_CT_written 17 = .ok (.dup, 1) := by decide +kernel
theorem d_CT_written_18 : decode b_CT_written 18 = .ok (.ldc 81, 2) := by decide +kernel
theorem d_CT_written_20 : decode b_CT_written 20 = .ok (.invokespecial 71, 3) := by decide +kernel
theorem d_CT_written_23 : decode b_CT_written 23 = .ok (.athrow, 1) := by decide +kernel
theorem d_CT_written_24 : decode b_CT_written 24 = .ok (.aload_n 3, 1) := by decide +kernel
theorem d_CT_written_25 : decode b_CT_written 25 = .ok (.iload_n 2, 1) := by decide +kernel
theorem d_CT_written_26 : decode b_CT_written 26 = .ok (.invokevirtual 95, 3) := by decide +kernel
theorem d_CT_written_29 : decode b_CT_written 29 = .ok (.ireturn, 1) := by decide +kernel
theorem d_CT_stash_0 : decode b_CT_stash 0 = .ok (.aload_n 0, 1) := by decide +kernel
theorem d_CT_stash_1 : decode b_CT_stash 1 = .ok (.iload_n 1, 1) := by decide +kernel
theorem d_CT_stash_2 : decode b_CT_stash 2 = .ok (.invokevirtual 54, 3) := by decide +kernel
theorem d_CT_stash_5 : decode b_CT_stash 5 = .ok (.getfield 102, 3) := by decide +kernel
theorem d_CT_stash_8 : decode b_CT_stash 8 = .ok (.astore_n 3, 1) := by decide +kernel
theorem d_CT_stash_9 : decode b_CT_stash 9 = .ok (.iload_n 2, 1) := by decide +kernel
theorem d_CT_stash_10 : decode b_CT_stash 10 = .ok (.ifCond .ge 13, 3) := by decide +kernel
theorem d_CT_stash_13 : decode b_CT_stash 13 = .ok (.new 67, 3) := by decide +kernel
theorem d_CT_stash_16 : decode b_CT_stash 16 = .ok (.dup, 1) := by decide +kernel
theorem d_CT_stash_17 : decode b_CT_stash 17 = .ok (.ldc 106, 2) := by decide +kernel
theorem d_CT_stash_19 : decode b_CT_stash 19 = .ok (.invokespecial 71, 3) := by decide +kernel
theorem d_CT_stash_22 : decode b_CT_stash 22 = .ok (.athrow, 1) := by decide +kernel
theorem d_CT_stash_23 : decode b_CT_stash 23 = .ok (.iload_n 2, 1) := by decide +kernel
theorem d_CT_stash_24 : decode b_CT_stash 24 = .ok (.aload_n 3, 1) := by decide +kernel
theorem d_CT_stash_25 : decode b_CT_stash 25 = .ok (.getfield 108, 3) := by decide +kernel
theorem d_CT_stash_28 : decode b_CT_stash 28 = .ok (.if_icmp .ge 13, 3) := by decide +kernel
theorem d_CT_stash_31 : decode b_CT_stash 31 = .ok (.aload_n 3, 1) := by decide +kernel
theorem d_CT_stash_32 : decode b_CT_stash 32 = .ok (.iload_n 2, 1) := by decide +kernel
theorem d_CT_stash_33 : decode b_CT_stash 33 = .ok (.invokevirtual 113, 3) := by decide +kernel
theorem d_CT_stash_36 : decode b_CT_stash 36 = .ok (.iconst 1, 1) := by decide +kernel
theorem d_CT_stash_37 : decode b_CT_stash 37 = .ok (.isub, 1) := by decide +kernel
theorem d_CT_stash_38 : decode b_CT_stash 38 = .ok (.goto 4, 3) := by decide +kernel
theorem d_CT_stash_41 : decode b_CT_stash 41 = .ok (.iconst (-1), 1) := by decide +kernel
theorem d_CT_stash_42 : decode b_CT_stash 42 = .ok (.ireturn, 1) := by decide +kernel
theorem d_CT_count_0 : decode b_CT_count 0 = .ok (.iload_n 1, 1) := by decide +kernel
theorem d_CT_count_1 : decode b_CT_count 1 = .ok (.tableswitch 120 0 8 #[51, 59, 67, 72, 77, 88, 99, 104, 109], 51) := by decide +kernel
theorem d_CT_count_52 : decode b_CT_count 52 = .ok (.aload_n 0, 1) := by decide +kernel
theorem d_CT_count_53 : decode b_CT_count 53 = .ok (.getfield 33, 3) := by decide +kernel
theorem d_CT_count_56 : decode b_CT_count 56 = .ok (.getfield 116, 3) := by decide +kernel
theorem d_CT_count_59 : decode b_CT_count 59 = .ok (.ireturn, 1) := by decide +kernel
theorem d_CT_count_60 : decode b_CT_count 60 = .ok (.aload_n 0, 1) := by decide +kernel
theorem d_CT_count_61 : decode b_CT_count 61 = .ok (.getfield 43, 3) := by decide +kernel
theorem d_CT_count_64 : decode b_CT_count 64 = .ok (.getfield 116, 3) := by decide +kernel
theorem d_CT_count_67 : decode b_CT_count 67 = .ok (.ireturn, 1) := by decide +kernel
theorem d_CT_count_68 : decode b_CT_count 68 = .ok (.aload_n 0, 1) := by decide +kernel
theorem d_CT_count_69 : decode b_CT_count 69 = .ok (.getfield 17, 3) := by decide +kernel
theorem d_CT_count_72 : decode b_CT_count 72 = .ok (.ireturn, 1) := by decide +kernel
theorem d_CT_count_73 : decode b_CT_count 73 = .ok (.aload_n 0, 1) := by decide +kernel
theorem d_CT_count_74 : decode b_CT_count 74 = .ok (.getfield 21, 3) := by decide +kernel
theorem d_CT_count_77 : decode b_CT_count 77 = .ok (.ireturn, 1) := by decide +kernel
theorem d_CT_count_78 : decode b_CT_count 78 = .ok (.aload_n 0, 1) := by decide +kernel
theorem d_CT_count_79 : decode b_CT_count 79 = .ok (.getfield 33, 3) := by decide +kernel
theorem d_CT_count_82 : decode b_CT_count 82 = .ok (.getfield 102, 3) := by decide +kernel
theorem d_CT_count_85 : decode b_CT_count 85 = .ok (.getfield 108, 3) := by decide +kernel
theorem d_CT_count_88 : decode b_CT_count 88 = .ok (.ireturn, 1) := by decide +kernel
theorem d_CT_count_89 : decode b_CT_count 89 = .ok (.aload_n 0, 1) := by decide +kernel
theorem d_CT_count_90 : decode b_CT_count 90 = .ok (.getfield 43, 3) := by decide +kernel
theorem d_CT_count_93 : decode b_CT_count 93 = .ok (.getfield 102, 3) := by decide +kernel
theorem d_CT_count_96 : decode b_CT_count 96 = .ok (.getfield 108, 3) := by decide +kernel
theorem d_CT_count_99 : decode b_CT_count 99 = .ok (.ireturn, 1) := by decide +kernel
theorem d_CT_count_100 : decode b_CT_count 100 = .ok (.aload_n 0, 1) := by decide +kernel
theorem d_CT_count_101 : decode b_CT_count 101 = .ok (.getfield 119, 3) := by decide +kernel
theorem d_CT_count_104 : decode b_CT_count 104 = .ok (.ireturn, 1) := by decide +kernel
theorem d_CT_count_105 : decode b_CT_count 105 = .ok (.aload_n 0, 1) := by decide +kernel
theorem d_CT_count_106 : decode b_CT_count 106 = .ok (.getfield 122, 3) := by decide +kernel
theorem d_CT_count_109 : decode b_CT_count 109 = .ok (.ireturn, 1) := by decide +kernel
theorem d_CT_count_110 : decode b_CT_count 110 = .ok (.aload_n 0, 1) := by decide +kernel
theorem d_CT_count_111 : decode b_CT_count 111 = .ok (.getfield 33, 3) := by decide +kernel
theorem d_CT_count_114 : decode b_CT_count 114 = .ok (.getfield 58, 3) := by decide +kernel
theorem d_CT_count_117 : decode b_CT_count 117 = .ok (.getfield 62, 3) := by decide +kernel
theorem d_CT_count_120 : decode b_CT_count 120 = .ok (.ireturn, 1) := by decide +kernel
theorem d_CT_count_121 : decode b_CT_count 121 = .ok (.new 67, 3) := by decide +kernel
theorem d_CT_count_124 : decode b_CT_count 124 = .ok (.dup, 1) := by decide +kernel
theorem d_CT_count_125 : decode b_CT_count 125 = .ok (.ldc 125, 2) := by decide +kernel
theorem d_CT_count_127 : decode b_CT_count 127 = .ok (.invokespecial 71, 3) := by decide +kernel
theorem d_CT_count_130 : decode b_CT_count 130 = .ok (.athrow, 1) := by decide +kernel

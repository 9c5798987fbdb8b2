theorem d_CM_init_0 : decode b_CM_init 0 = .ok (.aload_n 0, 1) := by decide +kernel
theorem d_CM_init_1 : decode b_CM_init 1 = .ok (.invokespecial 1, 3) := by decide +kernel
theorem d_CM_init_4 : decode b_CM_init 4 = .ok (.aload_n 0, 1) := by decide +kernel
theorem d_CM_init_5 : decode b_CM_init 5 = .ok (.sipush 512, 3) := by decide +kernel
theorem d_CM_init_8 : decode b_CM_init 8 = .ok (.newarray .int, 2) := by decide +kernel
theorem d_CM_init_10 : decode b_CM_init 10 = .ok (.putfield 7, 3) := by decide +kernel
theorem d_CM_init_13 : decode b_CM_init 13 = .ok (.aload_n 0, 1) := by decide +kernel
theorem d_CM_init_14 : decode b_CM_init 14 = .ok (.sipush 512, 3) := by decide +kernel
theorem d_CM_init_17 : decode b_CM_init 17 = .ok (.newarray .int, 2) := by decide +kernel
theorem d_CM_init_19 : decode b_CM_init 19 = .ok (.putfield 13, 3) := by decide +kernel
theorem d_CM_init_22 : decode b_CM_init 22 = .ok (.aload_n 0, 1) := by decide +kernel
theorem d_CM_init_23 : decode b_CM_init 23 = .ok (.sipush 512, 3) := by decide +kernel
theorem d_CM_init_26 : decode b_CM_init 26 = .ok (.newarray .long, 2) := by decide +kernel
theorem d_CM_init_28 : decode b_CM_init 28 = .ok (.putfield 16, 3) := by decide +kernel
theorem d_CM_init_31 : decode b_CM_init 31 = .ok (.aload_n 0, 1) := by decide +kernel
theorem d_CM_init_32 : decode b_CM_init 32 = .ok (.sipush 128, 3) := by decide +kernel
theorem d_CM_init_35 : decode b_CM_init 35 = .ok (.newarray .int, 2) := by decide +kernel
theorem d_CM_init_37 : decode b_CM_init 37 = .ok (.putfield 20, 3) := by decide +kernel
theorem d_CM_init_40 : decode b_CM_init 40 = .ok (.aload_n 0, 1) := by decide +kernel
theorem d_CM_init_41 : decode b_CM_init 41 = .ok (.sipush 160, 3) := by decide +kernel
theorem d_CM_init_44 : decode b_CM_init 44 = .ok (.newarray .int, 2) := by decide +kernel
theorem d_CM_init_46 : decode b_CM_init 46 = .ok (.putfield 23, 3) := by decide +kernel
theorem d_CM_init_49 : decode b_CM_init 49 = .ok (.aload_n 0, 1) := by decide +kernel
theorem d_CM_init_50 : decode b_CM_init 50 = .ok (.sipush 160, 3) := by decide +kernel
theorem d_CM_init_53 : decode b_CM_init 53 = .ok (.newarray .int, 2) := by decide +kernel
theorem d_CM_init_55 : decode b_CM_init 55 = .ok (.putfield 26, 3) := by decide +kernel
theorem d_CM_init_58 : decode b_CM_init 58 = .ok (.aload_n 0, 1) := by decide +kernel
theorem d_CM_init_59 : decode b_CM_init 59 = .ok (.sipush 160, 3) := by decide +kernel
theorem d_CM_init_62 : decode b_CM_init 62 = .ok (.newarray .long, 2) := by decide +kernel
theorem d_CM_init_64 : decode b_CM_init 64 = .ok (.putfield 29, 3) := by decide +kernel
theorem d_CM_init_67 : decode b_CM_init 67 = .ok (.aload_n 0, 1) := by decide +kernel
theorem d_CM_init_68 : decode b_CM_init 68 = .ok (.iconst 2, 1) := by decide +kernel
theorem d_CM_init_69 : decode b_CM_init 69 = .ok (.newarray .int, 2) := by decide +kernel
theorem d_CM_init_71 : decode b_CM_init 71 = .ok (.putfield 32, 3) := by decide +kernel
theorem d_CM_init_74 : decode b_CM_init 74 = .ok (.aload_n 0, 1) := by decide +kernel
theorem d_CM_init_75 : decode b_CM_init 75 = .ok (.bipush 16, 2) := by decide +kernel
theorem d_CM_init_77 : decode b_CM_init 77 = .ok (.newarray .int, 2) := by decide +kernel
theorem d_CM_init_79 : decode b_CM_init 79 = .ok (.putfield 35, 3) := by decide +kernel
theorem d_CM_init_82 : decode b_CM_init 82 = .ok (.aload_n 0, 1) := by decide +kernel
theorem d_CM_init_83 : decode b_CM_init 83 = .ok (.sipush 1200, 3) := by decide +kernel
theorem d_CM_init_86 : decode b_CM_init 86 = .ok (.newarray .int, 2) := by decide +kernel
theorem d_CM_init_88 : decode b_CM_init 88 = .ok (.putfield 38, 3) := by decide +kernel
theorem d_CM_init_91 : decode b_CM_init 91 = .ok (.aload_n 0, 1) := by decide +kernel
theorem d_CM_init_92 : decode b_CM_init 92 = .ok (.sipush 512, 3) := by decide +kernel
theorem d_CM_init_95 : decode b_CM_init 95 = .ok (.newarray .int, 2) := by decide +kernel
theorem d_CM_init_97 : decode b_CM_init 97 = .ok (.putfield 41, 3) := by decide +kernel
theorem d_CM_init_100 : decode b_CM_init 100 = .ok (.aload_n 0, 1) := by decide +kernel
theorem d_CM_init_101 : decode b_CM_init 101 = .ok (.sipush 512, 3) := by decide +kernel
theorem d_CM_init_104 : decode b_CM_init 104 = .ok (.newarray .int, 2) := by decide +kernel
theorem d_CM_init_106 : decode b_CM_init 106 = .ok (.putfield 44, 3) := by decide +kernel
theorem d_CM_init_109 : decode b_CM_init 109 = .ok (.aload_n 0, 1) := by decide +kernel
theorem d_CM_init_110 : decode b_CM_init 110 = .ok (.sipush 512, 3) := by decide +kernel
theorem d_CM_init_113 : decode b_CM_init 113 = .ok (.newarray .long, 2) := by decide +kernel
theorem d_CM_init_115 : decode b_CM_init 115 = .ok (.putfield 47, 3) := by decide +kernel
theorem d_CM_init_118 : decode b_CM_init 118 = .ok (.aload_n 0, 1) := by decide +kernel
theorem d_CM_init_119 : decode b_CM_init 119 = .ok (.sipush 128, 3) := by decide +kernel
theorem d_CM_init_122 : decode b_CM_init 122 = .ok (.newarray .int, 2) := by decide +kernel
theorem d_CM_init_124 : decode b_CM_init 124 = .ok (.putfield 50, 3) := by decide +kernel
theorem d_CM_init_127 : decode b_CM_init 127 = .ok (.aload_n 0, 1) := by decide +kernel
theorem d_CM_init_128 : decode b_CM_init 128 = .ok (.sipush 160, 3) := by decide +kernel
theorem d_CM_init_131 : decode b_CM_init 131 = .ok (.newarray .int, 2) := by decide +kernel
theorem d_CM_init_133 : decode b_CM_init 133 = .ok (.putfield 53, 3) := by decide +kernel
theorem d_CM_init_136 : decode b_CM_init 136 = .ok (.aload_n 0, 1) := by decide +kernel
theorem d_CM_init_137 : decode b_CM_init 137 = .ok (.sipush 160, 3) := by decide +kernel
theorem d_CM_init_140 : decode b_CM_init 140 = .ok (.newarray .int, 2) := by decide +kernel
theorem d_CM_init_142 : decode b_CM_init 142 = .ok (.putfield 56, 3) := by decide +kernel
theorem d_CM_init_145 : decode b_CM_init 145 = .ok (.aload_n 0, 1) := by decide +kernel
theorem d_CM_init_146 : decode b_CM_init 146 = .ok (.sipush 160, 3) := by decide +kernel
theorem d_CM_init_149 : decode b_CM_init 149 = .ok (.newarray .long, 2) := by decide +kernel
theorem d_CM_init_151 : decode b_CM_init 151 = .ok (.putfield 59, 3) := by decide +kernel
theorem d_CM_init_154 : decode b_CM_init 154 = .ok (.aload_n 0, 1) := by decide +kernel
theorem d_CM_init_155 : decode b_CM_init 155 = .ok (.iconst 2, 1) := by decide +kernel
theorem d_CM_init_156 : decode b_CM_init 156 = .ok (.newarray .int, 2) := by decide +kernel
theorem d_CM_init_158 : decode b_CM_init 158 = .ok (.putfield 62, 3) := by decide +kernel
theorem d_CM_init_161 : decode b_CM_init 161 = .ok (.aload_n 0, 1) := by decide +kernel
theorem d_CM_init_162 : decode b_CM_init 162 = .ok (.bipush 16, 2) := by decide +kernel
theorem d_CM_init_164 : decode b_CM_init 164 = .ok (.newarray .int, 2) := by decide +kernel
theorem d_CM_init_166 : decode b_CM_init 166 = .ok (.putfield 65, 3) := by decide +kernel
theorem d_CM_init_169 : decode b_CM_init 169 = .ok (.aload_n 0, 1) := by decide +kernel
theorem d_CM_init_170 : decode b_CM_init 170 = .ok (.iload_n 1, 1) := by decide +kernel
theorem d_CM_init_171 : decode b_CM_init 171 = .ok (.iconst 1, 1) := by decide +kernel
theorem d_CM_init_172 : decode b_CM_init 172 = .ok (.if_icmp .ge 7, 3) := by decide +kernel
theorem d_CM_init_175 : decode b_CM_init 175 = .ok (.iconst 1, 1) := by decide +kernel
theorem d_CM_init_176 : decode b_CM_init 176 = .ok (.goto 13, 3) := by decide +kernel
theorem d_CM_init_179 : decode b_CM_init 179 = .ok (.iload_n 1, 1) := by decide +kernel
theorem d_CM_init_180 : decode b_CM_init 180 = .ok (.iconst 5, 1) := by decide +kernel
theorem d_CM_init_181 : decode b_CM_init 181 = .ok (.if_icmp .le 7, 3) := by decide +kernel
theorem d_CM_init_184 : decode b_CM_init 184 = .ok (.iconst 5, 1) := by decide +kernel
theorem d_CM_init_185 : decode b_CM_init 185 = .ok (.goto 4, 3) := by decide +kernel
theorem d_CM_init_188 : decode b_CM_init 188 = .ok (.iload_n 1, 1) := by decide +kernel
theorem d_CM_init_189 : decode b_CM_init 189 = .ok (.putfield 68, 3) := by decide +kernel
theorem d_CM_init_192 : decode b_CM_init 192 = .ok (.aload_n 0, 1) := by decide +kernel
theorem d_CM_init_193 : decode b_CM_init 193 = .ok (.iload_n 2, 1) := by decide +kernel
theorem d_CM_init_194 : decode b_CM_init 194 = .ok (.iconst 1, 1) := by decide +kernel
theorem d_CM_init_195 : decode b_CM_init 195 = .ok (.if_icmp .ge 7, 3) := by decide +kernel
theorem d_CM_init_198 : decode b_CM_init 198 = .ok (.iconst 1, 1) := by decide +kernel
theorem d_CM_init_199 : decode b_CM_init 199 = .ok (.goto 13, 3) := by decide +kernel
theorem d_CM_init_202 : decode b_CM_init 202 = .ok (.iload_n 2, 1) := by decide +kernel
theorem d_CM_init_203 : decode b_CM_init 203 = .ok (.iconst 4, 1) := by decide +kernel
theorem d_CM_init_204 : decode b_CM_init 204 = .ok (.if_icmp .le 7, 3) := by decide +kernel
theorem d_CM_init_207 : decode b_CM_init 207 = .ok (.iconst 4, 1) := by decide +kernel
theorem d_CM_init_208 : decode b_CM_init 208 = .ok (.goto 4, 3) := by decide +kernel
theorem d_CM_init_211 : decode b_CM_init 211 = .ok (.iload_n 2, 1) := by decide +kernel
theorem d_CM_init_212 : decode b_CM_init 212 = .ok (.putfield 72, 3) := by decide +kernel
theorem d_CM_init_215 : decode b_CM_init 215 = .ok (.aload_n 0, 1) := by decide +kernel
theorem d_CM_init_216 : decode b_CM_init 216 = .ok (.iload_n 3, 1) := by decide +kernel
theorem d_CM_init_217 : decode b_CM_init 217 = .ok (.ifCond .ge 7, 3) := by decide +kernel
theorem d_CM_init_220 : decode b_CM_init 220 = .ok (.iconst 0, 1) := by decide +kernel
theorem d_CM_init_221 : decode b_CM_init 221 = .ok (.goto 15, 3) := by decide +kernel
theorem d_CM_init_224 : decode b_CM_init 224 = .ok (.iload_n 3, 1) := by decide +kernel
theorem d_CM_init_225 : decode b_CM_init 225 = .ok (.bipush 40, 2) := by decide +kernel
theorem d_CM_init_227 : decode b_CM_init 227 = .ok (.if_icmp .le 8, 3) := by decide +kernel
theorem d_CM_init_230 : decode b_CM_init 230 = .ok (.bipush 40, 2) := by decide +kernel
theorem d_CM_init_232 : decode b_CM_init 232 = .ok (.goto 4, 3) := by decide +kernel
theorem d_CM_init_235 : decode b_CM_init 235 = .ok (.iload_n 3, 1) := by decide +kernel
theorem d_CM_init_236 : decode b_CM_init 236 = .ok (.putfield 75, 3) := by decide +kernel
theorem d_CM_init_239 : decode b_CM_init 239 = .ok (.aload_n 0, 1) := by decide +kernel
theorem d_CM_init_240 : decode b_CM_init 240 = .ok (.lload 4, 2) := by decide +kernel
theorem d_CM_init_242 : decode b_CM_init 242 = .ok (.putfield 78, 3) := by decide +kernel
theorem d_CM_init_245 : decode b_CM_init 245 = .ok (.iconst 0, 1) := by decide +kernel
theorem d_CM_init_246 : decode b_CM_init 246 = .ok (.istore 6, 2) := by decide +kernel
theorem d_CM_init_248 : decode b_CM_init 248 = .ok (.iload 6, 2) := by decide +kernel
theorem d_CM_init_250 : decode b_CM_init 250 = .ok (.sipush 512, 3) := by decide +kernel
theorem d_CM_init_253 : decode b_CM_init 253 = .ok (.if_icmp .ge 17, 3) := by decide +kernel
theorem d_CM_init_256 : decode b_CM_init 256 = .ok (.aload_n 0, 1) := by decide +kernel
theorem d_CM_init_257 : decode b_CM_init 257 = .ok (.getfield 7, 3) := by decide +kernel
theorem d_CM_init_260 : decode b_CM_init 260 = .ok (.iload 6, 2) := by decide +kernel
theorem d_CM_init_262 : decode b_CM_init 262 = .ok (.iconst (-1), 1) := by decide +kernel
theorem d_CM_init_263 : decode b_CM_init 263 = .ok (.iastore, 1) := by decide +kernel
theorem d_CM_init_264 : decode b_CM_init 264 = .ok (.iinc 6 1, 3) := by decide +kernel
theorem d_CM_init_267 : decode b_CM_init 267 = .ok (.goto (-19), 3) := by decide +kernel
theorem d_CM_init_270 : decode b_CM_init 270 = .ok (.iconst 0, 1) := by decide +kernel
theorem d_CM_init_271 : decode b_CM_init 271 = .ok (.istore 6, 2) := by decide +kernel
theorem d_CM_init_273 : decode b_CM_init 273 = .ok (.iload 6, 2) := by decide +kernel
theorem d_CM_init_275 : decode b_CM_init 275 = .ok (.bipush 16, 2) := by decide +kernel
theorem d_CM_init_277 : decode b_CM_init 277 = .ok (.if_icmp .ge 24, 3) := by decide +kernel
theorem d_CM_init_280 : decode b_CM_init 280 = .ok (.aload_n 0, 1) := by decide +kernel
theorem d_CM_init_281 : decode b_CM_init 281 = .ok (.getfield 35, 3) := by decide +kernel
theorem d_CM_init_284 : decode b_CM_init 284 = .ok (.iload 6, 2) := by decide +kernel
theorem d_CM_init_286 : decode b_CM_init 286 = .ok (.iload 6, 2) := by decide +kernel
theorem d_CM_init_288 : decode b_CM_init 288 = .ok (.aload_n 0, 1) := by decide +kernel
theorem d_CM_init_289 : decode b_CM_init 289 = .ok (.iconst 1, 1) := by decide +kernel
theorem d_CM_init_290 : decode b_CM_init 290 = .ok (.invokevirtual 82, 3) := by decide +kernel
theorem d_CM_init_293 : decode b_CM_init 293 = .ok (.irem, 1) := by decide +kernel
theorem d_CM_init_294 : decode b_CM_init 294 = .ok (.iastore, 1) := by decide +kernel
theorem d_CM_init_295 : decode b_CM_init 295 = .ok (.iinc 6 1, 3) := by decide +kernel
theorem d_CM_init_298 : decode b_CM_init 298 = .ok (.goto (-25), 3) := by decide +kernel
theorem d_CM_init_301 : decode b_CM_init 301 = .ok (.return_, 1) := by decide +kernel
theorem d_CM_leavesOf_0 : decode b_CM_leavesOf 0 = .ok (.iconst 1, 1) := by decide +kernel
theorem d_CM_leavesOf_1 : decode b_CM_leavesOf 1 = .ok (.aload_n 0, 1) := by decide +kernel
theorem d_CM_leavesOf_2 : decode b_CM_leavesOf 2 = .ok (.iload_n 1, 1) := by decide +kernel
theorem d_CM_leavesOf_3 : decode b_CM_leavesOf 3 = .ok (.invokevirtual 89, 3) := by decide +kernel
theorem d_CM_leavesOf_6 : decode b_CM_leavesOf 6 = .ok (.ishl, 1) := by decide +kernel
theorem d_CM_leavesOf_7 : decode b_CM_leavesOf 7 = .ok (.ireturn, 1) := by decide +kernel
theorem d_CM_levelsOf_0 : decode b_CM_levelsOf 0 = .ok (.iload_n 1, 1) := by decide +kernel
theorem d_CM_levelsOf_1 : decode b_CM_levelsOf 1 = .ok (.ifCond .ne 10, 3) := by decide +kernel
theorem d_CM_levelsOf_4 : decode b_CM_levelsOf 4 = .ok (.aload_n 0, 1) := by decide +kernel
theorem d_CM_levelsOf_5 : decode b_CM_levelsOf 5 = .ok (.getfield 68, 3) := by decide +kernel
theorem d_CM_levelsOf_8 : decode b_CM_levelsOf 8 = .ok (.goto 21, 3) := by decide +kernel
theorem d_CM_levelsOf_11 : decode b_CM_levelsOf 11 = .ok (.aload_n 0, 1) := by decide +kernel
theorem d_CM_levelsOf_12 : decode b_CM_levelsOf 12 = .ok (.getfield 68, 3) := by decide +kernel
theorem d_CM_levelsOf_15 : decode b_CM_levelsOf 15 = .ok (.iconst 1, 1) := by decide +kernel
theorem d_CM_levelsOf_16 : decode b_CM_levelsOf 16 = .ok (.if_icmp .le 12, 3) := by decide +kernel
theorem d_CM_levelsOf_19 : decode b_CM_levelsOf 19 = .ok (.aload_n 0, 1) := by decide +kernel
theorem d_CM_levelsOf_20 : decode b_CM_levelsOf 20 = .ok (.getfield 68, 3) := by decide +kernel
theorem d_CM_levelsOf_23 : decode b_CM_levelsOf 23 = .ok (.iconst 1, 1) := by decide +kernel
theorem d_CM_levelsOf_24 : decode b_CM_levelsOf 24 = .ok (.isub, 1) := by decide +kernel
theorem d_CM_levelsOf_25 : decode b_CM_levelsOf 25 = .ok (.goto 4, 3) := by decide +kernel
theorem d_CM_levelsOf_28 : decode b_CM_levelsOf 28 = .ok (.iconst 1, 1) := by decide +kernel
theorem d_CM_levelsOf_29 : decode b_CM_levelsOf 29 = .ok (.ireturn, 1) := by decide +kernel
theorem d_CM_thrown_0 : decode b_CM_thrown 0 = .ok (.aload_n 0, 1) := by decide +kernel
theorem d_CM_thrown_1 : decode b_CM_thrown 1 = .ok (.getfield 86, 3) := by decide +kernel
theorem d_CM_thrown_4 : decode b_CM_thrown 4 = .ok (.ireturn, 1) := by decide +kernel
theorem d_CM_read_0 : decode b_CM_read 0 = .ok (.aload_n 0, 1) := by decide +kernel
theorem d_CM_read_1 : decode b_CM_read 1 = .ok (.iload_n 1, 1) := by decide +kernel
theorem d_CM_read_2 : decode b_CM_read 2 = .ok (.iconst 0, 1) := by decide +kernel
theorem d_CM_read_3 : decode b_CM_read 3 = .ok (.lconst 0, 1) := by decide +kernel
theorem d_CM_read_4 : decode b_CM_read 4 = .ok (.iload_n 2, 1) := by decide +kernel
theorem d_CM_read_5 : decode b_CM_read 5 = .ok (.iload_n 3, 1) := by decide +kernel
theorem d_CM_read_6 : decode b_CM_read 6 = .ok (.invokevirtual 138, 3) := by decide +kernel
theorem d_CM_read_9 : decode b_CM_read 9 = .ok (.lreturn, 1) := by decide +kernel
theorem d_CM_ask_0 : decode b_CM_ask 0 = .ok (.iload 5, 2) := by decide +kernel
theorem d_CM_ask_2 : decode b_CM_ask 2 = .ok (.ifCond .lt 32, 3) := by decide +kernel
theorem d_CM_ask_5 : decode b_CM_ask 5 = .ok (.iload 5, 2) := by decide +kernel
theorem d_CM_ask_7 : decode b_CM_ask 7 = .ok (.aload_n 0, 1) := by decide +kernel
theorem d_CM_ask_8 : decode b_CM_ask 8 = .ok (.iconst 0, 1) := by decide +kernel
theorem d_CM_ask_9 : decode b_CM_ask 9 = .ok (.invokevirtual 82, 3) := by decide +kernel
theorem d_CM_ask_12 : decode b_CM_ask 12 = .ok (.if_icmp .ge 22, 3) := by decide +kernel
theorem d_CM_ask_15 : decode b_CM_ask 15 = .ok (.iload 6, 2) := by decide +kernel
theorem d_CM_ask_17 : decode b_CM_ask 17 = .ok (.ifCond .lt 17, 3) := by decide +kernel
theorem d_CM_ask_20 : decode b_CM_ask 20 = .ok (.iload 6, 2) := by decide +kernel
theorem d_CM_ask_22 : decode b_CM_ask 22 = .ok (.aload_n 0, 1) := by decide +kernel
theorem d_CM_ask_23 : decode b_CM_ask 23 = .ok (.iconst 1, 1) := by decide +kernel
theorem d_CM_ask_24 : decode b_CM_ask 24 = .ok (.invokevirtual 82, 3) := by decide +kernel
theorem d_CM_ask_27 : decode b_CM_ask 27 = .ok (.if_icmp .ge 7, 3) := by decide +kernel
theorem d_CM_ask_30 : decode b_CM_ask 30 = .ok (.iconst 1, 1) := by decide +kernel
theorem d_CM_ask_31 : decode b_CM_ask 31 = .ok (.goto 4, 3) := by decide +kernel
theorem d_CM_ask_34 : decode b_CM_ask 34 = .ok (.iconst 0, 1) := by decide +kernel
theorem d_CM_ask_35 : decode b_CM_ask 35 = .ok (.istore 7, 2) := by decide +kernel
theorem d_CM_ask_37 : decode b_CM_ask 37 = .ok (.aload_n 0, 1) := by decide +kernel
theorem d_CM_ask_38 : decode b_CM_ask 38 = .ok (.iload_n 1, 1) := by decide +kernel
theorem d_CM_ask_39 : decode b_CM_ask 39 = .ok (.ifCond .lt 9, 3) := by decide +kernel
theorem d_CM_ask_42 : decode b_CM_ask 42 = .ok (.iload_n 1, 1) := by decide +kernel
theorem d_CM_ask_43 : decode b_CM_ask 43 = .ok (.bipush 63, 2) := by decide +kernel
theorem d_CM_ask_45 : decode b_CM_ask 45 = .ok (.if_icmp .le 7, 3) := by decide +kernel
theorem d_CM_ask_48 : decode b_CM_ask 48 = .ok (.iconst 1, 1) := by decide +kernel
theorem d_CM_ask_49 : decode b_CM_ask 49 = .ok (.goto 13, 3) := by decide +kernel
theorem d_CM_ask_52 : decode b_CM_ask 52 = .ok (.iload 7, 2) := by decide +kernel
theorem d_CM_ask_54 : decode b_CM_ask 54 = .ok (.ifCond .ne 7, 3) := by decide +kernel
theorem d_CM_ask_57 : decode b_CM_ask 57 = .ok (.iconst 2, 1) := by decide +kernel
theorem d_CM_ask_58 : decode b_CM_ask 58 = .ok (.goto 4, 3) := by decide +kernel
theorem d_CM_ask_61 : decode b_CM_ask 61 = .ok (.iconst 0, 1) := by decide +kernel
theorem d_CM_ask_62 : decode b_CM_ask 62 = .ok (.putfield 86, 3) := by decide +kernel
theorem d_CM_ask_65 : decode b_CM_ask 65 = .ok (.aload_n 0, 1) := by decide +kernel
theorem d_CM_ask_66 : decode b_CM_ask 66 = .ok (.getfield 86, 3) := by decide +kernel
theorem d_CM_ask_69 : decode b_CM_ask 69 = .ok (.ifCond .le 5, 3) := by decide +kernel
theorem d_CM_ask_72 : decode b_CM_ask 72 = .ok (.lconst 0, 1) := by decide +kernel
theorem d_CM_ask_73 : decode b_CM_ask 73 = .ok (.lreturn, 1) := by decide +kernel
theorem d_CM_ask_74 : decode b_CM_ask 74 = .ok (.aload_n 0, 1) := by decide +kernel
theorem d_CM_ask_75 : decode b_CM_ask 75 = .ok (.invokevirtual 108, 3) := by decide +kernel
theorem d_CM_ask_78 : decode b_CM_ask 78 = .ok (.iload_n 1, 1) := by decide +kernel
theorem d_CM_ask_79 : decode b_CM_ask 79 = .ok (.iconst 4, 1) := by decide +kernel
theorem d_CM_ask_80 : decode b_CM_ask 80 = .ok (.idiv, 1) := by decide +kernel
theorem d_CM_ask_81 : decode b_CM_ask 81 = .ok (.istore 8, 2) := by decide +kernel
theorem d_CM_ask_83 : decode b_CM_ask 83 = .ok (.aload_n 0, 1) := by decide +kernel
theorem d_CM_ask_84 : decode b_CM_ask 84 = .ok (.getfield 35, 3) := by decide +kernel
theorem d_CM_ask_87 : decode b_CM_ask 87 = .ok (.iload 8, 2) := by decide +kernel
theorem d_CM_ask_89 : decode b_CM_ask 89 = .ok (.iaload, 1) := by decide +kernel
theorem d_CM_ask_90 : decode b_CM_ask 90 = .ok (.istore 9, 2) := by decide +kernel
theorem d_CM_ask_92 : decode b_CM_ask 92 = .ok (.aload_n 0, 1) := by decide +kernel
theorem d_CM_ask_93 : decode b_CM_ask 93 = .ok (.iconst 1, 1) := by decide +kernel
theorem d_CM_ask_94 : decode b_CM_ask 94 = .ok (.iload 8, 2) := by decide +kernel
theorem d_CM_ask_96 : decode b_CM_ask 96 = .ok (.iload 9, 2) := by decide +kernel
theorem d_CM_ask_98 : decode b_CM_ask 98 = .ok (.invokevirtual 111, 3) := by decide +kernel
theorem d_CM_ask_101 : decode b_CM_ask 101 = .ok (.istore 10, 2) := by decide +kernel
theorem d_CM_ask_103 : decode b_CM_ask 103 = .ok (.bipush 16, 2) := by decide +kernel
theorem d_CM_ask_105 : decode b_CM_ask 105 = .ok (.iload_n 1, 1) := by decide +kernel
theorem d_CM_ask_106 : decode b_CM_ask 106 = .ok (.iconst 4, 1) := by decide +kernel
theorem d_CM_ask_107 : decode b_CM_ask 107 = .ok (.irem, 1) := by decide +kernel
theorem d_CM_ask_108 : decode b_CM_ask 108 = .ok (.imul, 1) := by decide +kernel
theorem d_CM_ask_109 : decode b_CM_ask 109 = .ok (.istore 11, 2) := by decide +kernel
theorem d_CM_ask_111 : decode b_CM_ask 111 = .ok (.aload_n 0, 1) := by decide +kernel
theorem d_CM_ask_112 : decode b_CM_ask 112 = .ok (.getfield 29, 3) := by decide +kernel
theorem d_CM_ask_115 : decode b_CM_ask 115 = .ok (.iload 10, 2) := by decide +kernel
theorem d_CM_ask_117 : decode b_CM_ask 117 = .ok (.laload, 1) := by decide +kernel
theorem d_CM_ask_118 : decode b_CM_ask 118 = .ok (.iload 11, 2) := by decide +kernel
theorem d_CM_ask_120 : decode b_CM_ask 120 = .ok (.lushr, 1) := by decide +kernel
theorem d_CM_ask_121 : decode b_CM_ask 121 = .ok (.l2i, 1) := by decide +kernel
theorem d_CM_ask_122 : decode b_CM_ask 122 = .ok (.ldc 114, 2) := by decide +kernel
theorem d_CM_ask_124 : decode b_CM_ask 124 = .ok (.iand, 1) := by decide +kernel
theorem d_CM_ask_125 : decode b_CM_ask 125 = .ok (.istore 12, 2) := by decide +kernel
theorem d_CM_ask_127 : decode b_CM_ask 127 = .ok (.aload_n 0, 1) := by decide +kernel
theorem d_CM_ask_128 : decode b_CM_ask 128 = .ok (.getfield 26, 3) := by decide +kernel
theorem d_CM_ask_131 : decode b_CM_ask 131 = .ok (.iload 10, 2) := by decide +kernel
theorem d_CM_ask_133 : decode b_CM_ask 133 = .ok (.iload 6, 2) := by decide +kernel
theorem d_CM_ask_135 : decode b_CM_ask 135 = .ok (.iastore, 1) := by decide +kernel
theorem d_CM_ask_136 : decode b_CM_ask 136 = .ok (.aload_n 0, 1) := by decide +kernel
theorem d_CM_ask_137 : decode b_CM_ask 137 = .ok (.getfield 29, 3) := by decide +kernel
theorem d_CM_ask_140 : decode b_CM_ask 140 = .ok (.iload 10, 2) := by decide +kernel
theorem d_CM_ask_142 : decode b_CM_ask 142 = .ok (.aload_n 0, 1) := by decide +kernel
theorem d_CM_ask_143 : decode b_CM_ask 143 = .ok (.getfield 29, 3) := by decide +kernel
theorem d_CM_ask_146 : decode b_CM_ask 146 = .ok (.iload 10, 2) := by decide +kernel
theorem d_CM_ask_148 : decode b_CM_ask 148 = .ok (.laload, 1) := by decide +kernel
theorem d_CM_ask_149 : decode b_CM_ask 149 = .ok (.ldc2_w 115, 3) := by decide +kernel
theorem d_CM_ask_152 : decode b_CM_ask 152 = .ok (.iload 11, 2) := by decide +kernel
theorem d_CM_ask_154 : decode b_CM_ask 154 = .ok (.lshl, 1) := by decide +kernel
theorem d_CM_ask_155 : decode b_CM_ask 155 = .ok (.ldc2_w 117, 3) := by decide +kernel
theorem d_CM_ask_158 : decode b_CM_ask 158 = .ok (.lxor, 1) := by decide +kernel
theorem d_CM_ask_159 : decode b_CM_ask 159 = .ok (.land, 1) := by decide +kernel
theorem d_CM_ask_160 : decode b_CM_ask 160 = .ok (.iload 5, 2) := by decide +kernel
theorem d_CM_ask_162 : decode b_CM_ask 162 = .ok (.i2l, 1) := by decide +kernel
theorem d_CM_ask_163 : decode b_CM_ask 163 = .ok (.lconst 1, 1) := by decide +kernel
theorem d_CM_ask_164 : decode b_CM_ask 164 = .ok (.ladd, 1) := by decide +kernel
theorem d_CM_ask_165 : decode b_CM_ask 165 = .ok (.iload 11, 2) := by decide +kernel
theorem d_CM_ask_167 : decode b_CM_ask 167 = .ok (.lshl, 1) := by decide +kernel
theorem d_CM_ask_168 : decode b_CM_ask 168 = .ok (.lor, 1) := by decide +kernel
theorem d_CM_ask_169 : decode b_CM_ask 169 = .ok (.lastore, 1) := by decide +kernel
theorem d_CM_ask_170 : decode b_CM_ask 170 = .ok (.aload_n 0, 1) := by decide +kernel
theorem d_CM_ask_171 : decode b_CM_ask 171 = .ok (.getfield 35, 3) := by decide +kernel
theorem d_CM_ask_174 : decode b_CM_ask 174 = .ok (.iload 8, 2) := by decide +kernel
theorem d_CM_ask_176 : decode b_CM_ask 176 = .ok (.iload 6, 2) := by decide +kernel
theorem d_CM_ask_178 : decode b_CM_ask 178 = .ok (.iastore, 1) := by decide +kernel
theorem d_CM_ask_179 : decode b_CM_ask 179 = .ok (.aload_n 0, 1) := by decide +kernel
theorem d_CM_ask_180 : decode b_CM_ask 180 = .ok (.iconst 1, 1) := by decide +kernel
theorem d_CM_ask_181 : decode b_CM_ask 181 = .ok (.iload 9, 2) := by decide +kernel
theorem d_CM_ask_183 : decode b_CM_ask 183 = .ok (.invokevirtual 119, 3) := by decide +kernel
theorem d_CM_ask_186 : decode b_CM_ask 186 = .ok (.istore 13, 2) := by decide +kernel
theorem d_CM_ask_188 : decode b_CM_ask 188 = .ok (.iload 12, 2) := by decide +kernel
theorem d_CM_ask_190 : decode b_CM_ask 190 = .ok (.ifCond .ne 13, 3) := by decide +kernel
theorem d_CM_ask_193 : decode b_CM_ask 193 = .ok (.iload_n 1, 1) := by decide +kernel
theorem d_CM_ask_194 : decode b_CM_ask 194 = .ok (.aload_n 0, 1) := by decide +kernel
theorem d_CM_ask_195 : decode b_CM_ask 195 = .ok (.iconst 0, 1) := by decide +kernel
theorem d_CM_ask_196 : decode b_CM_ask 196 = .ok (.invokevirtual 82, 3) := by decide +kernel
theorem d_CM_ask_199 : decode b_CM_ask 199 = .ok (.irem, 1) := by decide +kernel
theorem d_CM_ask_200 : decode b_CM_ask 200 = .ok (.goto 7, 3) := by decide +kernel
theorem d_CM_ask_203 : decode b_CM_ask 203 = .ok (.iload 12, 2) := by decide +kernel
theorem d_CM_ask_205 : decode b_CM_ask 205 = .ok (.iconst 1, 1) := by decide +kernel
theorem d_CM_ask_206 : decode b_CM_ask 206 = .ok (.isub, 1) := by decide +kernel
theorem d_CM_ask_207 : decode b_CM_ask 207 = .ok (.istore 14, 2) := by decide +kernel
theorem d_CM_ask_209 : decode b_CM_ask 209 = .ok (.aload_n 0, 1) := by decide +kernel
theorem d_CM_ask_210 : decode b_CM_ask 210 = .ok (.iconst 0, 1) := by decide +kernel
theorem d_CM_ask_211 : decode b_CM_ask 211 = .ok (.iload_n 1, 1) := by decide +kernel
theorem d_CM_ask_212 : decode b_CM_ask 212 = .ok (.iload 14, 2) := by decide +kernel
theorem d_CM_ask_214 : decode b_CM_ask 214 = .ok (.invokevirtual 111, 3) := by decide +kernel
theorem d_CM_ask_217 : decode b_CM_ask 217 = .ok (.istore 15, 2) := by decide +kernel
theorem d_CM_ask_219 : decode b_CM_ask 219 = .ok (.aload_n 0, 1) := by decide +kernel
theorem d_CM_ask_220 : decode b_CM_ask 220 = .ok (.getfield 29, 3) := by decide +kernel
theorem d_CM_ask_223 : decode b_CM_ask 223 = .ok (.iload 15, 2) := by decide +kernel
theorem d_CM_ask_225 : decode b_CM_ask 225 = .ok (.laload, 1) := by decide +kernel
theorem d_CM_ask_226 : decode b_CM_ask 226 = .ok (.lstore 16, 2) := by decide +kernel
theorem d_CM_ask_228 : decode b_CM_ask 228 = .ok (.aload_n 0, 1) := by decide +kernel
theorem d_CM_ask_229 : decode b_CM_ask 229 = .ok (.getfield 26, 3) := by decide +kernel
theorem d_CM_ask_232 : decode b_CM_ask 232 = .ok (.iload 15, 2) := by decide +kernel
theorem d_CM_ask_234 : decode b_CM_ask 234 = .ok (.iload 5, 2) := by decide +kernel
theorem d_CM_ask_236 : decode b_CM_ask 236 = .ok (.iastore, 1) := by decide +kernel
theorem d_CM_ask_237 : decode b_CM_ask 237 = .ok (.aload_n 0, 1) := by decide +kernel
theorem d_CM_ask_238 : decode b_CM_ask 238 = .ok (.getfield 29, 3) := by decide +kernel
theorem d_CM_ask_241 : decode b_CM_ask 241 = .ok (.iload 15, 2) := by decide +kernel
theorem d_CM_ask_243 : decode b_CM_ask 243 = .ok (.iload_n 2, 1) := by decide +kernel
theorem d_CM_ask_244 : decode b_CM_ask 244 = .ok (.ifCond .eq 7, 3) := by decide +kernel
theorem d_CM_ask_247 : decode b_CM_ask 247 = .ok (.lload_n 3, 1) := by decide +kernel
theorem d_CM_ask_248 : decode b_CM_ask 248 = .ok (.goto 5, 3) := by decide +kernel
theorem d_CM_ask_251 : decode b_CM_ask 251 = .ok (.lload 16, 2) := by decide +kernel
theorem d_CM_ask_253 : decode b_CM_ask 253 = .ok (.lastore, 1) := by decide +kernel
theorem d_CM_ask_254 : decode b_CM_ask 254 = .ok (.aload_n 0, 1) := by decide +kernel
theorem d_CM_ask_255 : decode b_CM_ask 255 = .ok (.iconst 0, 1) := by decide +kernel
theorem d_CM_ask_256 : decode b_CM_ask 256 = .ok (.iload 14, 2) := by decide +kernel
theorem d_CM_ask_258 : decode b_CM_ask 258 = .ok (.invokevirtual 119, 3) := by decide +kernel
theorem d_CM_ask_261 : decode b_CM_ask 261 = .ok (.istore 18, 2) := by decide +kernel
theorem d_CM_ask_263 : decode b_CM_ask 263 = .ok (.iload 13, 2) := by decide +kernel
theorem d_CM_ask_265 : decode b_CM_ask 265 = .ok (.ifCond .eq 8, 3) := by decide +kernel
theorem d_CM_ask_268 : decode b_CM_ask 268 = .ok (.iload 18, 2) := by decide +kernel
theorem d_CM_ask_270 : decode b_CM_ask 270 = .ok (.ifCond .ne 14, 3) := by decide +kernel
theorem d_CM_ask_273 : decode b_CM_ask 273 = .ok (.aload_n 0, 1) := by decide +kernel
theorem d_CM_ask_274 : decode b_CM_ask 274 = .ok (.invokevirtual 123, 3) := by decide +kernel
theorem d_CM_ask_277 : decode b_CM_ask 277 = .ok (.aload_n 0, 1) := by decide +kernel
theorem d_CM_ask_278 : decode b_CM_ask 278 = .ok (.iconst 3, 1) := by decide +kernel
theorem d_CM_ask_279 : decode b_CM_ask 279 = .ok (.putfield 86, 3) := by decide +kernel
theorem d_CM_ask_282 : decode b_CM_ask 282 = .ok (.lconst 0, 1) := by decide +kernel
theorem d_CM_ask_283 : decode b_CM_ask 283 = .ok (.lreturn, 1) := by decide +kernel
theorem d_CM_ask_284 : decode b_CM_ask 284 = .ok (.aload_n 0, 1) := by decide +kernel
theorem d_CM_ask_285 : decode b_CM_ask 285 = .ok (.aload_n 0, 1) := by decide +kernel
theorem d_CM_ask_286 : decode b_CM_ask 286 = .ok (.getfield 32, 3) := by decide +kernel
theorem d_CM_ask_289 : decode b_CM_ask 289 = .ok (.iconst 0, 1) := by decide +kernel
theorem d_CM_ask_290 : decode b_CM_ask 290 = .ok (.iaload, 1) := by decide +kernel
theorem d_CM_ask_291 : decode b_CM_ask 291 = .ok (.aload_n 0, 1) := by decide +kernel
theorem d_CM_ask_292 : decode b_CM_ask 292 = .ok (.getfield 126, 3) := by decide +kernel
theorem d_CM_ask_295 : decode b_CM_ask 295 = .ok (.if_icmp .le 12, 3) := by decide +kernel
theorem d_CM_ask_298 : decode b_CM_ask 298 = .ok (.aload_n 0, 1) := by decide +kernel
theorem d_CM_ask_299 : decode b_CM_ask 299 = .ok (.getfield 32, 3) := by decide +kernel
theorem d_CM_ask_302 : decode b_CM_ask 302 = .ok (.iconst 0, 1) := by decide +kernel
theorem d_CM_ask_303 : decode b_CM_ask 303 = .ok (.iaload, 1) := by decide +kernel
theorem d_CM_ask_304 : decode b_CM_ask 304 = .ok (.goto 7, 3) := by decide +kernel
theorem d_CM_ask_307 : decode b_CM_ask 307 = .ok (.aload_n 0, 1) := by decide +kernel
theorem d_CM_ask_308 : decode b_CM_ask 308 = .ok (.getfield 126, 3) := by decide +kernel
theorem d_CM_ask_311 : decode b_CM_ask 311 = .ok (.putfield 126, 3) := by decide +kernel
theorem d_CM_ask_314 : decode b_CM_ask 314 = .ok (.aload_n 0, 1) := by decide +kernel
theorem d_CM_ask_315 : decode b_CM_ask 315 = .ok (.dup, 1) := by decide +kernel
theorem d_CM_ask_316 : decode b_CM_ask 316 = .ok (.getfield 129, 3) := by decide +kernel
theorem d_CM_ask_319 : decode b_CM_ask 319 = .ok (.iconst 1, 1) := by decide +kernel
theorem d_CM_ask_320 : decode b_CM_ask 320 = .ok (.iadd, 1) := by decide +kernel
theorem d_CM_ask_321 : decode b_CM_ask 321 = .ok (.putfield 129, 3) := by decide +kernel
theorem d_CM_ask_324 : decode b_CM_ask 324 = .ok (.aload_n 0, 1) := by decide +kernel
theorem d_CM_ask_325 : decode b_CM_ask 325 = .ok (.iload 14, 2) := by decide +kernel
theorem d_CM_ask_327 : decode b_CM_ask 327 = .ok (.iload 9, 2) := by decide +kernel
theorem d_CM_ask_329 : decode b_CM_ask 329 = .ok (.invokevirtual 132, 3) := by decide +kernel
theorem d_CM_ask_332 : decode b_CM_ask 332 = .ok (.lload 16, 2) := by decide +kernel
theorem d_CM_ask_334 : decode b_CM_ask 334 = .ok (.lreturn, 1) := by decide +kernel
theorem d_CM_keep_0 : decode b_CM_keep 0 = .ok (.iconst 0, 1) := by decide +kernel
theorem d_CM_keep_1 : decode b_CM_keep 1 = .ok (.istore_n 1, 1) := by decide +kernel
theorem d_CM_keep_2 : decode b_CM_keep 2 = .ok (.iload_n 1, 1) := by decide +kernel
theorem d_CM_keep_3 : decode b_CM_keep 3 = .ok (.sipush 512, 3) := by decide +kernel
theorem d_CM_keep_6 : decode b_CM_keep 6 = .ok (.if_icmp .ge 45, 3) := by decide +kernel
theorem d_CM_keep_9 : decode b_CM_keep 9 = .ok (.aload_n 0, 1) := by decide +kernel
theorem d_CM_keep_10 : decode b_CM_keep 10 = .ok (.getfield 41, 3) := by decide +kernel
theorem d_CM_keep_13 : decode b_CM_keep 13 = .ok (.iload_n 1, 1) := by decide +kernel
theorem d_CM_keep_14 : decode b_CM_keep 14 = .ok (.aload_n 0, 1) := by decide +kernel
theorem d_CM_keep_15 : decode b_CM_keep 15 = .ok (.getfield 7, 3) := by decide +kernel
theorem d_CM_keep_18 : decode b_CM_keep 18 = .ok (.iload_n 1, 1) := by decide +kernel
theorem d_CM_keep_19 : decode b_CM_keep 19 = .ok (.iaload, 1) := by decide +kernel
theorem d_CM_keep_20 : decode b_CM_keep 20 = .ok (.iastore, 1) := by decide +kernel
theorem d_CM_keep_21 : decode b_CM_keep 21 = .ok (.aload_n 0, 1) := by decide +kernel
theorem d_CM_keep_22 : decode b_CM_keep 22 = .ok (.getfield 44, 3) := by decide +kernel
theorem d_CM_keep_25 : decode b_CM_keep 25 = .ok (.iload_n 1, 1) := by decide +kernel
theorem d_CM_keep_26 : decode b_CM_keep 26 = .ok (.aload_n 0, 1) := by decide +kernel
theorem d_CM_keep_27 : decode b_CM_keep 27 = .ok (.getfield 13, 3) := by decide +kernel
theorem d_CM_keep_30 : decode b_CM_keep 30 = .ok (.iload_n 1, 1) := by decide +kernel
theorem d_CM_keep_31 : decode b_CM_keep 31 = .ok (.iaload, 1) := by decide +kernel
theorem d_CM_keep_32 : decode b_CM_keep 32 = .ok (.iastore, 1) := by decide +kernel
theorem d_CM_keep_33 : decode b_CM_keep 33 = .ok (.aload_n 0, 1) := by decide +kernel
theorem d_CM_keep_34 : decode b_CM_keep 34 = .ok (.getfield 47, 3) := by decide +kernel
theorem d_CM_keep_37 : decode b_CM_keep 37 = .ok (.iload_n 1, 1) := by decide +kernel
theorem d_CM_keep_38 : decode b_CM_keep 38 = .ok (.aload_n 0, 1) := by decide +kernel
theorem d_CM_keep_39 : decode b_CM_keep 39 = .ok (.getfield 16, 3) := by decide +kernel
theorem d_CM_keep_42 : decode b_CM_keep 42 = .ok (.iload_n 1, 1) := by decide +kernel
theorem d_CM_keep_43 : decode b_CM_keep 43 = .ok (.laload, 1) := by decide +kernel
theorem d_CM_keep_44 : decode b_CM_keep 44 = .ok (.lastore, 1) := by decide +kernel
theorem d_CM_keep_45 : decode b_CM_keep 45 = .ok (.iinc 1 1, 3) := by decide +kernel
theorem d_CM_keep_48 : decode b_CM_keep 48 = .ok (.goto (-46), 3) := by decide +kernel
theorem d_CM_keep_51 : decode b_CM_keep 51 = .ok (.iconst 0, 1) := by decide +kernel
theorem d_CM_keep_52 : decode b_CM_keep 52 = .ok (.istore_n 1, 1) := by decide +kernel
theorem d_CM_keep_53 : decode b_CM_keep 53 = .ok (.iload_n 1, 1) := by decide +kernel
theorem d_CM_keep_54 : decode b_CM_keep 54 = .ok (.sipush 128, 3) := by decide +kernel
theorem d_CM_keep_57 : decode b_CM_keep 57 = .ok (.if_icmp .ge 21, 3) := by decide +kernel
theorem d_CM_keep_60 : decode b_CM_keep 60 = .ok (.aload_n 0, 1) := by decide +kernel
theorem d_CM_keep_61 : decode b_CM_keep 61 = .ok (.getfield 50, 3) := by decide +kernel
theorem d_CM_keep_64 : decode b_CM_keep 64 = .ok (.iload_n 1, 1) := by decide +kernel
theorem d_CM_keep_65 : decode b_CM_keep 65 = .ok (.aload_n 0, 1) := by decide +kernel
theorem d_CM_keep_66 : decode b_CM_keep 66 = .ok (.getfield 20, 3) := by decide +kernel
theorem d_CM_keep_69 : decode b_CM_keep 69 = .ok (.iload_n 1, 1) := by decide +kernel
theorem d_CM_keep_70 : decode b_CM_keep 70 = .ok (.iaload, 1) := by decide +kernel
theorem d_CM_keep_71 : decode b_CM_keep 71 = .ok (.iastore, 1) := by decide +kernel
theorem d_CM_keep_72 : decode b_CM_keep 72 = .ok (.iinc 1 1, 3) := by decide +kernel
theorem d_CM_keep_75 : decode b_CM_keep 75 = .ok (.goto (-22), 3) := by decide +kernel
theorem d_CM_keep_78 : decode b_CM_keep 78 = .ok (.iconst 0, 1) := by decide +kernel
theorem d_CM_keep_79 : decode b_CM_keep 79 = .ok (.istore_n 1, 1) := by decide +kernel
theorem d_CM_keep_80 : decode b_CM_keep 80 = .ok (.iload_n 1, 1) := by decide +kernel
theorem d_CM_keep_81 : decode b_CM_keep 81 = .ok (.sipush 160, 3) := by decide +kernel
theorem d_CM_keep_84 : decode b_CM_keep 84 = .ok (.if_icmp .ge 45, 3) := by decide +kernel
theorem d_CM_keep_87 : decode b_CM_keep 87 = .ok (.aload_n 0, 1) := by decide +kernel
theorem d_CM_keep_88 : decode b_CM_keep 88 = .ok (.getfield 53, 3) := by decide +kernel
theorem d_CM_keep_91 : decode b_CM_keep 91 = .ok (.iload_n 1, 1) := by decide +kernel
theorem d_CM_keep_92 : decode b_CM_keep 92 = .ok (.aload_n 0, 1) := by decide +kernel
theorem d_CM_keep_93 : decode b_CM_keep 93 = .ok (.getfield 23, 3) := by decide +kernel
theorem d_CM_keep_96 : decode b_CM_keep 96 = .ok (.iload_n 1, 1) := by decide +kernel
theorem d_CM_keep_97 : decode b_CM_keep 97 = .ok (.iaload, 1) := by decide +kernel
theorem d_CM_keep_98 : decode b_CM_keep 98 = .ok (.iastore, 1) := by decide +kernel
theorem d_CM_keep_99 : decode b_CM_keep 99 = .ok (.aload_n 0, 1) := by decide +kernel
theorem d_CM_keep_100 : decode b_CM_keep 100 = .ok (.getfield 56, 3) := by decide +kernel
theorem d_CM_keep_103 : decode b_CM_keep 103 = .ok (.iload_n 1, 1) := by decide +kernel
theorem d_CM_keep_104 : decode b_CM_keep 104 = .ok (.aload_n 0, 1) := by decide +kernel
theorem d_CM_keep_105 : decode b_CM_keep 105 = .ok (.getfield 26, 3) := by decide +kernel
theorem d_CM_keep_108 : decode b_CM_keep 108 = .ok (.iload_n 1, 1) := by decide +kernel
theorem d_CM_keep_109 : decode b_CM_keep 109 = .ok (.iaload, 1) := by decide +kernel
theorem d_CM_keep_110 : decode b_CM_keep 110 = .ok (.iastore, 1) := by decide +kernel
theorem d_CM_keep_111 : decode b_CM_keep 111 = .ok (.aload_n 0, 1) := by decide +kernel
theorem d_CM_keep_112 : decode b_CM_keep 112 = .ok (.getfield 59, 3) := by decide +kernel
theorem d_CM_keep_115 : decode b_CM_keep 115 = .ok (.iload_n 1, 1) := by decide +kernel
theorem d_CM_keep_116 : decode b_CM_keep 116 = .ok (.aload_n 0, 1) := by decide +kernel
theorem d_CM_keep_117 : decode b_CM_keep 117 = .ok (.getfield 29, 3) := by decide +kernel
theorem d_CM_keep_120 : decode b_CM_keep 120 = .ok (.iload_n 1, 1) := by decide +kernel
theorem d_CM_keep_121 : decode b_CM_keep 121 = .ok (.laload, 1) := by decide +kernel
theorem d_CM_keep_122 : decode b_CM_keep 122 = .ok (.lastore, 1) := by decide +kernel
theorem d_CM_keep_123 : decode b_CM_keep 123 = .ok (.iinc 1 1, 3) := by decide +kernel
theorem d_CM_keep_126 : decode b_CM_keep 126 = .ok (.goto (-46), 3) := by decide +kernel
theorem d_CM_keep_129 : decode b_CM_keep 129 = .ok (.iconst 0, 1) := by decide +kernel
theorem d_CM_keep_130 : decode b_CM_keep 130 = .ok (.istore_n 1, 1) := by decide +kernel
theorem d_CM_keep_131 : decode b_CM_keep 131 = .ok (.iload_n 1, 1) := by decide +kernel
theorem d_CM_keep_132 : decode b_CM_keep 132 = .ok (.iconst 2, 1) := by decide +kernel
theorem d_CM_keep_133 : decode b_CM_keep 133 = .ok (.if_icmp .ge 21, 3) := by decide +kernel
theorem d_CM_keep_136 : decode b_CM_keep 136 = .ok (.aload_n 0, 1) := by decide +kernel
theorem d_CM_keep_137 : decode b_CM_keep 137 = .ok (.getfield 62, 3) := by decide +kernel
theorem d_CM_keep_140 : decode b_CM_keep 140 = .ok (.iload_n 1, 1) := by decide +kernel
theorem d_CM_keep_141 : decode b_CM_keep 141 = .ok (.aload_n 0, 1) := by decide +kernel
theorem d_CM_keep_142 : decode b_CM_keep 142 = .ok (.getfield 32, 3) := by decide +kernel
theorem d_CM_keep_145 : decode b_CM_keep 145 = .ok (.iload_n 1, 1) := by decide +kernel
theorem d_CM_keep_146 : decode b_CM_keep 146 = .ok (.iaload, 1) := by decide +kernel
theorem d_CM_keep_147 : decode b_CM_keep 147 = .ok (.iastore, 1) := by decide +kernel
theorem d_CM_keep_148 : decode b_CM_keep 148 = .ok (.iinc 1 1, 3) := by decide +kernel
theorem d_CM_keep_151 : decode b_CM_keep 151 = .ok (.goto (-20), 3) := by decide +kernel
theorem d_CM_keep_154 : decode b_CM_keep 154 = .ok (.iconst 0, 1) := by decide +kernel
theorem d_CM_keep_155 : decode b_CM_keep 155 = .ok (.istore_n 1, 1) := by decide +kernel
theorem d_CM_keep_156 : decode b_CM_keep 156 = .ok (.iload_n 1, 1) := by decide +kernel
theorem d_CM_keep_157 : decode b_CM_keep 157 = .ok (.bipush 16, 2) := by decide +kernel
theorem d_CM_keep_159 : decode b_CM_keep 159 = .ok (.if_icmp .ge 21, 3) := by decide +kernel
theorem d_CM_keep_162 : decode b_CM_keep 162 = .ok (.aload_n 0, 1) := by decide +kernel
theorem d_CM_keep_163 : decode b_CM_keep 163 = .ok (.getfield 65, 3) := by decide +kernel
theorem d_CM_keep_166 : decode b_CM_keep 166 = .ok (.iload_n 1, 1) := by decide +kernel
theorem d_CM_keep_167 : decode b_CM_keep 167 = .ok (.aload_n 0, 1) := by decide +kernel
theorem d_CM_keep_168 : decode b_CM_keep 168 = .ok (.getfield 35, 3) := by decide +kernel
theorem d_CM_keep_171 : decode b_CM_keep 171 = .ok (.iload_n 1, 1) := by decide +kernel
theorem d_CM_keep_172 : decode b_CM_keep 172 = .ok (.iaload, 1) := by decide +kernel
theorem d_CM_keep_173 : decode b_CM_keep 173 = .ok (.iastore, 1) := by decide +kernel
theorem d_CM_keep_174 : decode b_CM_keep 174 = .ok (.iinc 1 1, 3) := by decide +kernel
theorem d_CM_keep_177 : decode b_CM_keep 177 = .ok (.goto (-21), 3) := by decide +kernel
theorem d_CM_keep_180 : decode b_CM_keep 180 = .ok (.return_, 1) := by decide +kernel
theorem d_CM_gather_0 : decode b_CM_gather 0 = .ok (.aload_n 0, 1) := by decide +kernel
theorem d_CM_gather_1 : decode b_CM_gather 1 = .ok (.iload_n 1, 1) := by decide +kernel
theorem d_CM_gather_2 : decode b_CM_gather 2 = .ok (.invokevirtual 89, 3) := by decide +kernel
theorem d_CM_gather_5 : decode b_CM_gather 5 = .ok (.istore 4, 2) := by decide +kernel
theorem d_CM_gather_7 : decode b_CM_gather 7 = .ok (.iconst 0, 1) := by decide +kernel
theorem d_CM_gather_8 : decode b_CM_gather 8 = .ok (.istore 5, 2) := by decide +kernel
theorem d_CM_gather_10 : decode b_CM_gather 10 = .ok (.iload 5, 2) := by decide +kernel
theorem d_CM_gather_12 : decode b_CM_gather 12 = .ok (.iload 4, 2) := by decide +kernel
theorem d_CM_gather_14 : decode b_CM_gather 14 = .ok (.if_icmp .gt 97, 3) := by decide +kernel
theorem d_CM_gather_17 : decode b_CM_gather 17 = .ok (.aload_n 0, 1) := by decide +kernel
theorem d_CM_gather_18 : decode b_CM_gather 18 = .ok (.iload_n 1, 1) := by decide +kernel
theorem d_CM_gather_19 : decode b_CM_gather 19 = .ok (.invokevirtual 82, 3) := by decide +kernel
theorem d_CM_gather_22 : decode b_CM_gather 22 = .ok (.iload_n 3, 1) := by decide +kernel
theorem d_CM_gather_23 : decode b_CM_gather 23 = .ok (.iadd, 1) := by decide +kernel
theorem d_CM_gather_24 : decode b_CM_gather 24 = .ok (.iload 4, 2) := by decide +kernel
theorem d_CM_gather_26 : decode b_CM_gather 26 = .ok (.iload 5, 2) := by decide +kernel
theorem d_CM_gather_28 : decode b_CM_gather 28 = .ok (.isub, 1) := by decide +kernel
theorem d_CM_gather_29 : decode b_CM_gather 29 = .ok (.ishr, 1) := by decide +kernel
theorem d_CM_gather_30 : decode b_CM_gather 30 = .ok (.istore 6, 2) := by decide +kernel
theorem d_CM_gather_32 : decode b_CM_gather 32 = .ok (.iconst 0, 1) := by decide +kernel
theorem d_CM_gather_33 : decode b_CM_gather 33 = .ok (.istore 7, 2) := by decide +kernel
theorem d_CM_gather_35 : decode b_CM_gather 35 = .ok (.iload 7, 2) := by decide +kernel
theorem d_CM_gather_37 : decode b_CM_gather 37 = .ok (.aload_n 0, 1) := by decide +kernel
theorem d_CM_gather_38 : decode b_CM_gather 38 = .ok (.getfield 72, 3) := by decide +kernel
theorem d_CM_gather_41 : decode b_CM_gather 41 = .ok (.if_icmp .ge 64, 3) := by decide +kernel
theorem d_CM_gather_44 : decode b_CM_gather 44 = .ok (.iload_n 1, 1) := by decide +kernel
theorem d_CM_gather_45 : decode b_CM_gather 45 = .ok (.iload 6, 2) := by decide +kernel
theorem d_CM_gather_47 : decode b_CM_gather 47 = .ok (.iload 7, 2) := by decide +kernel
theorem d_CM_gather_49 : decode b_CM_gather 49 = .ok (.invokestatic 92, 3) := by decide +kernel
theorem d_CM_gather_52 : decode b_CM_gather 52 = .ok (.istore 8, 2) := by decide +kernel
theorem d_CM_gather_54 : decode b_CM_gather 54 = .ok (.aload_n 0, 1) := by decide +kernel
theorem d_CM_gather_55 : decode b_CM_gather 55 = .ok (.getfield 7, 3) := by decide +kernel
theorem d_CM_gather_58 : decode b_CM_gather 58 = .ok (.iload 8, 2) := by decide +kernel
theorem d_CM_gather_60 : decode b_CM_gather 60 = .ok (.iaload, 1) := by decide +kernel
theorem d_CM_gather_61 : decode b_CM_gather 61 = .ok (.iconst (-1), 1) := by decide +kernel
theorem d_CM_gather_62 : decode b_CM_gather 62 = .ok (.if_icmp .eq 37, 3) := by decide +kernel
theorem d_CM_gather_65 : decode b_CM_gather 65 = .ok (.aload_n 0, 1) := by decide +kernel
theorem d_CM_gather_66 : decode b_CM_gather 66 = .ok (.iload_n 1, 1) := by decide +kernel
theorem d_CM_gather_67 : decode b_CM_gather 67 = .ok (.aload_n 0, 1) := by decide +kernel
theorem d_CM_gather_68 : decode b_CM_gather 68 = .ok (.getfield 7, 3) := by decide +kernel
theorem d_CM_gather_71 : decode b_CM_gather 71 = .ok (.iload 8, 2) := by decide +kernel
theorem d_CM_gather_73 : decode b_CM_gather 73 = .ok (.iaload, 1) := by decide +kernel
theorem d_CM_gather_74 : decode b_CM_gather 74 = .ok (.aload_n 0, 1) := by decide +kernel
theorem d_CM_gather_75 : decode b_CM_gather 75 = .ok (.getfield 13, 3) := by decide +kernel
theorem d_CM_gather_78 : decode b_CM_gather 78 = .ok (.iload 8, 2) := by decide +kernel
theorem d_CM_gather_80 : decode b_CM_gather 80 = .ok (.iaload, 1) := by decide +kernel
theorem d_CM_gather_81 : decode b_CM_gather 81 = .ok (.aload_n 0, 1) := by decide +kernel
theorem d_CM_gather_82 : decode b_CM_gather 82 = .ok (.getfield 16, 3) := by decide +kernel
theorem d_CM_gather_85 : decode b_CM_gather 85 = .ok (.iload 8, 2) := by decide +kernel
theorem d_CM_gather_87 : decode b_CM_gather 87 = .ok (.laload, 1) := by decide +kernel
theorem d_CM_gather_88 : decode b_CM_gather 88 = .ok (.invokevirtual 96, 3) := by decide +kernel
theorem d_CM_gather_91 : decode b_CM_gather 91 = .ok (.aload_n 0, 1) := by decide +kernel
theorem d_CM_gather_92 : decode b_CM_gather 92 = .ok (.getfield 7, 3) := by decide +kernel
theorem d_CM_gather_95 : decode b_CM_gather 95 = .ok (.iload 8, 2) := by decide +kernel
theorem d_CM_gather_97 : decode b_CM_gather 97 = .ok (.iconst (-1), 1) := by decide +kernel
theorem d_CM_gather_98 : decode b_CM_gather 98 = .ok (.iastore, 1) := by decide +kernel
theorem d_CM_gather_99 : decode b_CM_gather 99 = .ok (.iinc 7 1, 3) := by decide +kernel
theorem d_CM_gather_102 : decode b_CM_gather 102 = .ok (.goto (-67), 3) := by decide +kernel
theorem d_CM_gather_105 : decode b_CM_gather 105 = .ok (.iinc 5 1, 3) := by decide +kernel
theorem d_CM_gather_108 : decode b_CM_gather 108 = .ok (.goto (-98), 3) := by decide +kernel
theorem d_CM_gather_111 : decode b_CM_gather 111 = .ok (.aload_n 0, 1) := by decide +kernel
theorem d_CM_gather_112 : decode b_CM_gather 112 = .ok (.iload_n 1, 1) := by decide +kernel
theorem d_CM_gather_113 : decode b_CM_gather 113 = .ok (.iload_n 2, 1) := by decide +kernel
theorem d_CM_gather_114 : decode b_CM_gather 114 = .ok (.invokevirtual 100, 3) := by decide +kernel
theorem d_CM_gather_117 : decode b_CM_gather 117 = .ok (.iconst (-1), 1) := by decide +kernel
theorem d_CM_gather_118 : decode b_CM_gather 118 = .ok (.if_icmp .ne 11, 3) := by decide +kernel
theorem d_CM_gather_121 : decode b_CM_gather 121 = .ok (.aload_n 0, 1) := by decide +kernel
theorem d_CM_gather_122 : decode b_CM_gather 122 = .ok (.iload_n 1, 1) := by decide +kernel
theorem d_CM_gather_123 : decode b_CM_gather 123 = .ok (.iload_n 2, 1) := by decide +kernel
theorem d_CM_gather_124 : decode b_CM_gather 124 = .ok (.iconst 0, 1) := by decide +kernel
theorem d_CM_gather_125 : decode b_CM_gather 125 = .ok (.lconst 0, 1) := by decide +kernel
theorem d_CM_gather_126 : decode b_CM_gather 126 = .ok (.invokevirtual 96, 3) := by decide +kernel
theorem d_CM_gather_129 : decode b_CM_gather 129 = .ok (.aload_n 0, 1) := by decide +kernel
theorem d_CM_gather_130 : decode b_CM_gather 130 = .ok (.iload_n 1, 1) := by decide +kernel
theorem d_CM_gather_131 : decode b_CM_gather 131 = .ok (.iload_n 2, 1) := by decide +kernel
theorem d_CM_gather_132 : decode b_CM_gather 132 = .ok (.invokevirtual 100, 3) := by decide +kernel
theorem d_CM_gather_135 : decode b_CM_gather 135 = .ok (.ireturn, 1) := by decide +kernel

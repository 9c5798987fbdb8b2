theorem d_LW_cell_0 : decode b_LW_cell 0 = .ok (.iload_n 1, 1) := by decide +kernel
theorem d_LW_cell_1 : decode b_LW_cell 1 = .ok (.aload_n 0, 1) := by decide +kernel
theorem d_LW_cell_2 : decode b_LW_cell 2 = .ok (.arraylength, 1) := by decide +kernel
theorem d_LW_cell_3 : decode b_LW_cell 3 = .ok (.if_icmp .ge 9, 3) := by decide +kernel
theorem d_LW_cell_6 : decode b_LW_cell 6 = .ok (.aload_n 0, 1) := by decide +kernel
theorem d_LW_cell_7 : decode b_LW_cell 7 = .ok (.iload_n 1, 1) := by decide +kernel
theorem d_LW_cell_8 : decode b_LW_cell 8 = .ok (.iaload, 1) := by decide +kernel
theorem d_LW_cell_9 : decode b_LW_cell 9 = .ok (.goto 4, 3) := by decide +kernel
theorem d_LW_cell_12 : decode b_LW_cell 12 = .ok (.iconst 0, 1) := by decide +kernel
theorem d_LW_cell_13 : decode b_LW_cell 13 = .ok (.ireturn, 1) := by decide +kernel
theorem d_LW_read_0 : decode b_LW_read 0 = .ok (.aload 4, 2) := by decide +kernel
theorem d_LW_read_2 : decode b_LW_read 2 = .ok (.iconst 0, 1) := by decide +kernel
theorem d_LW_read_3 : decode b_LW_read 3 = .ok (.aload_n 0, 1) := by decide +kernel
theorem d_LW_read_4 : decode b_LW_read 4 = .ok (.iload_n 1, 1) := by decide +kernel
theorem d_LW_read_5 : decode b_LW_read 5 = .ok (.iload_n 2, 1) := by decide +kernel
theorem d_LW_read_6 : decode b_LW_read 6 = .ok (.iload_n 3, 1) := by decide +kernel
theorem d_LW_read_7 : decode b_LW_read 7 = .ok (.invokevirtual 7, 3) := by decide +kernel
theorem d_LW_read_10 : decode b_LW_read 10 = .ok (.lastore, 1) := by decide +kernel
theorem d_LW_read_11 : decode b_LW_read 11 = .ok (.goto 15, 3) := by decide +kernel
theorem d_LW_read_14 : decode b_LW_read 14 = .ok (.astore 5, 2) := by decide +kernel
theorem d_LW_read_16 : decode b_LW_read 16 = .ok (.iconst 1, 1) := by decide +kernel
theorem d_LW_read_17 : decode b_LW_read 17 = .ok (.ireturn, 1) := by decide +kernel
theorem d_LW_read_18 : decode b_LW_read 18 = .ok (.astore 5, 2) := by decide +kernel
theorem d_LW_read_20 : decode b_LW_read 20 = .ok (.iconst 2, 1) := by decide +kernel
theorem d_LW_read_21 : decode b_LW_read 21 = .ok (.ireturn, 1) := by decide +kernel
theorem d_LW_read_22 : decode b_LW_read 22 = .ok (.astore 5, 2) := by decide +kernel
theorem d_LW_read_24 : decode b_LW_read 24 = .ok (.iconst 3, 1) := by decide +kernel
theorem d_LW_read_25 : decode b_LW_read 25 = .ok (.ireturn, 1) := by decide +kernel
theorem d_LW_read_26 : decode b_LW_read 26 = .ok (.iconst 0, 1) := by decide +kernel
theorem d_LW_read_27 : decode b_LW_read 27 = .ok (.ireturn, 1) := by decide +kernel
theorem d_LW_write_0 : decode b_LW_write 0 = .ok (.aload 6, 2) := by decide +kernel
theorem d_LW_write_2 : decode b_LW_write 2 = .ok (.iconst 0, 1) := by decide +kernel
theorem d_LW_write_3 : decode b_LW_write 3 = .ok (.aload_n 0, 1) := by decide +kernel
theorem d_LW_write_4 : decode b_LW_write 4 = .ok (.iload_n 1, 1) := by decide +kernel
theorem d_LW_write_5 : decode b_LW_write 5 = .ok (.lload_n 2, 1) := by decide +kernel
theorem d_LW_write_6 : decode b_LW_write 6 = .ok (.iload 4, 2) := by decide +kernel
theorem d_LW_write_8 : decode b_LW_write 8 = .ok (.iload 5, 2) := by decide +kernel
theorem d_LW_write_10 : decode b_LW_write 10 = .ok (.invokevirtual 19, 3) := by decide +kernel
theorem d_LW_write_13 : decode b_LW_write 13 = .ok (.lastore, 1) := by decide +kernel
theorem d_LW_write_14 : decode b_LW_write 14 = .ok (.goto 15, 3) := by decide +kernel
theorem d_LW_write_17 : decode b_LW_write 17 = .ok (.astore 7, 2) := by decide +kernel
theorem d_LW_write_19 : decode b_LW_write 19 = .ok (.iconst 1, 1) := by decide +kernel
theorem d_LW_write_20 : decode b_LW_write 20 = .ok (.ireturn, 1) := by decide +kernel
theorem d_LW_write_21 : decode b_LW_write 21 = .ok (.astore 7, 2) := by decide +kernel
theorem d_LW_write_23 : decode b_LW_write 23 = .ok (.iconst 2, 1) := by decide +kernel
theorem d_LW_write_24 : decode b_LW_write 24 = .ok (.ireturn, 1) := by decide +kernel
theorem d_LW_write_25 : decode b_LW_write 25 = .ok (.astore 7, 2) := by decide +kernel
theorem d_LW_write_27 : decode b_LW_write 27 = .ok (.iconst 3, 1) := by decide +kernel
theorem d_LW_write_28 : decode b_LW_write 28 = .ok (.ireturn, 1) := by decide +kernel
theorem d_LW_write_29 : decode b_LW_write 29 = .ok (.iconst 0, 1) := by decide +kernel
theorem d_LW_write_30 : decode b_LW_write 30 = .ok (.ireturn, 1) := by decide +kernel
theorem d_LW_trace_0 : decode b_LW_trace 0 = .ok (.aload_n 3, 1) := by decide +kernel
theorem d_LW_trace_1 : decode b_LW_trace 1 = .ok (.iconst 0, 1) := by decide +kernel
theorem d_LW_trace_2 : decode b_LW_trace 2 = .ok (.aload_n 0, 1) := by decide +kernel
theorem d_LW_trace_3 : decode b_LW_trace 3 = .ok (.iload_n 1, 1) := by decide +kernel
theorem d_LW_trace_4 : decode b_LW_trace 4 = .ok (.iload_n 2, 1) := by decide +kernel
theorem d_LW_trace_5 : decode b_LW_trace 5 = .ok (.invokevirtual 23, 3) := by decide +kernel
theorem d_LW_trace_8 : decode b_LW_trace 8 = .ok (.i2l, 1) := by decide +kernel
theorem d_LW_trace_9 : decode b_LW_trace 9 = .ok (.lastore, 1) := by decide +kernel
theorem d_LW_trace_10 : decode b_LW_trace 10 = .ok (.goto 7, 3) := by decide +kernel
theorem d_LW_trace_13 : decode b_LW_trace 13 = .ok (.astore 4, 2) := by decide +kernel
theorem d_LW_trace_15 : decode b_LW_trace 15 = .ok (.iconst 1, 1) := by decide +kernel
theorem d_LW_trace_16 : decode b_LW_trace 16 = .ok (.ireturn, 1) := by decide +kernel
theorem d_LW_trace_17 : decode b_LW_trace 17 = .ok (.iconst 0, 1) := by decide +kernel
theorem d_LW_trace_18 : decode b_LW_trace 18 = .ok (.ireturn, 1) := by decide +kernel
theorem d_LW_stored_0 : decode b_LW_stored 0 = .ok (.aload 5, 2) := by decide +kernel
theorem d_LW_stored_2 : decode b_LW_stored 2 = .ok (.iconst 0, 1) := by decide +kernel
theorem d_LW_stored_3 : decode b_LW_stored 3 = .ok (.aload_n 0, 1) := by decide +kernel
theorem d_LW_stored_4 : decode b_LW_stored 4 = .ok (.iload_n 1, 1) := by decide +kernel
theorem d_LW_stored_5 : decode b_LW_stored 5 = .ok (.iload_n 2, 1) := by decide +kernel
theorem d_LW_stored_6 : decode b_LW_stored 6 = .ok (.iload_n 3, 1) := by decide +kernel
theorem d_LW_stored_7 : decode b_LW_stored 7 = .ok (.iload 4, 2) := by decide +kernel
theorem d_LW_stored_9 : decode b_LW_stored 9 = .ok (.invokevirtual 27, 3) := by decide +kernel
theorem d_LW_stored_12 : decode b_LW_stored 12 = .ok (.lastore, 1) := by decide +kernel
theorem d_LW_stored_13 : decode b_LW_stored 13 = .ok (.goto 7, 3) := by decide +kernel
theorem d_LW_stored_16 : decode b_LW_stored 16 = .ok (.astore 6, 2) := by decide +kernel
theorem d_LW_stored_18 : decode b_LW_stored 18 = .ok (.iconst 1, 1) := by decide +kernel
theorem d_LW_stored_19 : decode b_LW_stored 19 = .ok (.ireturn, 1) := by decide +kernel
theorem d_LW_stored_20 : decode b_LW_stored 20 = .ok (.iconst 0, 1) := by decide +kernel
theorem d_LW_stored_21 : decode b_LW_stored 21 = .ok (.ireturn, 1) := by decide +kernel
theorem d_LW_written_0 : decode b_LW_written 0 = .ok (.aload_n 3, 1) := by decide +kernel
theorem d_LW_written_1 : decode b_LW_written 1 = .ok (.iconst 0, 1) := by decide +kernel
theorem d_LW_written_2 : decode b_LW_written 2 = .ok (.aload_n 0, 1) := by decide +kernel
theorem d_LW_written_3 : decode b_LW_written 3 = .ok (.iload_n 1, 1) := by decide +kernel
theorem d_LW_written_4 : decode b_LW_written 4 = .ok (.iload_n 2, 1) := by decide +kernel
theorem d_LW_written_5 : decode b_LW_written 5 = .ok (.invokevirtual 31, 3) := by decide +kernel
theorem d_LW_written_8 : decode b_LW_written 8 = .ok (.i2l, 1) := by decide +kernel
theorem d_LW_written_9 : decode b_LW_written 9 = .ok (.lastore, 1) := by decide +kernel
theorem d_LW_written_10 : decode b_LW_written 10 = .ok (.goto 7, 3) := by decide +kernel
theorem d_LW_written_13 : decode b_LW_written 13 = .ok (.astore 4, 2) := by decide +kernel
theorem d_LW_written_15 : decode b_LW_written 15 = .ok (.iconst 1, 1) := by decide +kernel
theorem d_LW_written_16 : decode b_LW_written 16 = .ok (.ireturn, 1) := by decide +kernel
theorem d_LW_written_17 : decode b_LW_written 17 = .ok (.iconst 0, 1) := by decide +kernel
theorem d_LW_written_18 : decode b_LW_written 18 = .ok (.ireturn, 1) := by decide +kernel
theorem d_LW_stash_0 : decode b_LW_stash 0 = .ok (.aload_n 3, 1) := by decide +kernel
theorem d_LW_stash_1 : decode b_LW_stash 1 = .ok (.iconst 0, 1) := by decide +kernel
theorem d_LW_stash_2 : decode b_LW_stash 2 = .ok (.aload_n 0, 1) := by decide +kernel
theorem d_LW_stash_3 : decode b_LW_stash 3 = .ok (.iload_n 1, 1) := by decide +kernel
theorem d_LW_stash_4 : decode b_LW_stash 4 = .ok (.iload_n 2, 1) := by decide +kernel
theorem d_LW_stash_5 : decode b_LW_stash 5 = .ok (.invokevirtual 34, 3) := by decide +kernel
theorem d_LW_stash_8 : decode b_LW_stash 8 = .ok (.i2l, 1) := by decide +kernel
theorem d_LW_stash_9 : decode b_LW_stash 9 = .ok (.lastore, 1) := by decide +kernel
theorem d_LW_stash_10 : decode b_LW_stash 10 = .ok (.goto 7, 3) := by decide +kernel
theorem d_LW_stash_13 : decode b_LW_stash 13 = .ok (.astore 4, 2) := by decide +kernel
theorem d_LW_stash_15 : decode b_LW_stash 15 = .ok (.iconst 1, 1) := by decide +kernel
theorem d_LW_stash_16 : decode b_LW_stash 16 = .ok (.ireturn, 1) := by decide +kernel
theorem d_LW_stash_17 : decode b_LW_stash 17 = .ok (.iconst 0, 1) := by decide +kernel
theorem d_LW_stash_18 : decode b_LW_stash 18 = .ok (.ireturn, 1) := by decide +kernel
theorem d_LW_count_0 : decode b_LW_count 0 = .ok (.aload_n 2, 1) := by decide +kernel
theorem d_LW_count_1 : decode b_LW_count 1 = .ok (.iconst 0, 1) := by decide +kernel
theorem d_LW_count_2 : decode b_LW_count 2 = .ok (.aload_n 0, 1) := by decide +kernel
theorem d_LW_count_3 : decode b_LW_count 3 = .ok (.iload_n 1, 1) := by decide +kernel
theorem d_LW_count_4 : decode b_LW_count 4 = .ok (.invokevirtual 37, 3) := by decide +kernel
theorem d_LW_count_7 : decode b_LW_count 7 = .ok (.i2l, 1) := by decide +kernel
theorem d_LW_count_8 : decode b_LW_count 8 = .ok (.lastore, 1) := by decide +kernel
theorem d_LW_count_9 : decode b_LW_count 9 = .ok (.goto 6, 3) := by decide +kernel
theorem d_LW_count_12 : decode b_LW_count 12 = .ok (.astore_n 3, 1) := by decide +kernel
theorem d_LW_count_13 : decode b_LW_count 13 = .ok (.iconst 1, 1) := by decide +kernel
theorem d_LW_count_14 : decode b_LW_count 14 = .ok (.ireturn, 1) := by decide +kernel
theorem d_LW_count_15 : decode b_LW_count 15 = .ok (.iconst 0, 1) := by decide +kernel
theorem d_LW_count_16 : decode b_LW_count 16 = .ok (.ireturn, 1) := by decide +kernel
theorem d_LW_law_0 : decode b_LW_law 0 = .ok (.new 8, 3) := by decide +kernel
theorem d_LW_law_3 : decode b_LW_law 3 = .ok (.dup, 1) := by decide +kernel
theorem d_LW_law_4 : decode b_LW_law 4 = .ok (.aload_n 0, 1) := by decide +kernel
theorem d_LW_law_5 : decode b_LW_law 5 = .ok (.iconst 0, 1) := by decide +kernel
theorem d_LW_law_6 : decode b_LW_law 6 = .ok (.invokestatic 41, 3) := by decide +kernel
theorem d_LW_law_9 : decode b_LW_law 9 = .ok (.aload_n 0, 1) := by decide +kernel
theorem d_LW_law_10 : decode b_LW_law 10 = .ok (.iconst 1, 1) := by decide +kernel
theorem d_LW_law_11 : decode b_LW_law 11 = .ok (.invokestatic 41, 3) := by decide +kernel
theorem d_LW_law_14 : decode b_LW_law 14 = .ok (.aload_n 0, 1) := by decide +kernel
theorem d_LW_law_15 : decode b_LW_law 15 = .ok (.iconst 2, 1) := by decide +kernel
theorem d_LW_law_16 : decode b_LW_law 16 = .ok (.invokestatic 41, 3) := by decide +kernel
theorem d_LW_law_19 : decode b_LW_law 19 = .ok (.aload_n 0, 1) := by decide +kernel
theorem d_LW_law_20 : decode b_LW_law 20 = .ok (.iconst 3, 1) := by decide +kernel
theorem d_LW_law_21 : decode b_LW_law 21 = .ok (.invokestatic 41, 3) := by decide +kernel
theorem d_LW_law_24 : decode b_LW_law 24 = .ok (.i2l, 1) := by decide +kernel
theorem d_LW_law_25 : decode b_LW_law 25 = .ok (.invokespecial 47, 3) := by decide +kernel
theorem d_LW_law_28 : decode b_LW_law 28 = .ok (.astore_n 1, 1) := by decide +kernel
theorem d_LW_law_29 : decode b_LW_law 29 = .ok (.new 50, 3) := by decide +kernel
theorem d_LW_law_32 : decode b_LW_law 32 = .ok (.dup, 1) := by decide +kernel
theorem d_LW_law_33 : decode b_LW_law 33 = .ok (.aload_n 0, 1) := by decide +kernel
theorem d_LW_law_34 : decode b_LW_law 34 = .ok (.iconst 0, 1) := by decide +kernel
theorem d_LW_law_35 : decode b_LW_law 35 = .ok (.invokestatic 41, 3) := by decide +kernel
theorem d_LW_law_38 : decode b_LW_law 38 = .ok (.aload_n 0, 1) := by decide +kernel
theorem d_LW_law_39 : decode b_LW_law 39 = .ok (.iconst 1, 1) := by decide +kernel
theorem d_LW_law_40 : decode b_LW_law 40 = .ok (.invokestatic 41, 3) := by decide +kernel
theorem d_LW_law_43 : decode b_LW_law 43 = .ok (.aload_n 0, 1) := by decide +kernel
theorem d_LW_law_44 : decode b_LW_law 44 = .ok (.iconst 2, 1) := by decide +kernel
theorem d_LW_law_45 : decode b_LW_law 45 = .ok (.invokestatic 41, 3) := by decide +kernel
theorem d_LW_law_48 : decode b_LW_law 48 = .ok (.aload_n 0, 1) := by decide +kernel
theorem d_LW_law_49 : decode b_LW_law 49 = .ok (.iconst 3, 1) := by decide +kernel
theorem d_LW_law_50 : decode b_LW_law 50 = .ok (.invokestatic 41, 3) := by decide +kernel
theorem d_LW_law_53 : decode b_LW_law 53 = .ok (.i2l, 1) := by decide +kernel
theorem d_LW_law_54 : decode b_LW_law 54 = .ok (.invokespecial 52, 3) := by decide +kernel
theorem d_LW_law_57 : decode b_LW_law 57 = .ok (.astore_n 2, 1) := by decide +kernel
theorem d_LW_law_58 : decode b_LW_law 58 = .ok (.iconst 1, 1) := by decide +kernel
theorem d_LW_law_59 : decode b_LW_law 59 = .ok (.newarray .long, 2) := by decide +kernel
theorem d_LW_law_61 : decode b_LW_law 61 = .ok (.astore_n 3, 1) := by decide +kernel
theorem d_LW_law_62 : decode b_LW_law 62 = .ok (.iconst 4, 1) := by decide +kernel
theorem d_LW_law_63 : decode b_LW_law 63 = .ok (.istore 4, 2) := by decide +kernel
theorem d_LW_law_65 : decode b_LW_law 65 = .ok (.iload 4, 2) := by decide +kernel
theorem d_LW_law_67 : decode b_LW_law 67 = .ok (.aload_n 0, 1) := by decide +kernel
theorem d_LW_law_68 : decode b_LW_law 68 = .ok (.arraylength, 1) := by decide +kernel
theorem d_LW_law_69 : decode b_LW_law 69 = .ok (.bipush 6, 2) := by decide +kernel
theorem d_LW_law_71 : decode b_LW_law 71 = .ok (.isub, 1) := by decide +kernel
theorem d_LW_law_72 : decode b_LW_law 72 = .ok (.if_icmp .gt 611, 3) := by decide +kernel
theorem d_LW_law_75 : decode b_LW_law 75 = .ok (.aload_n 0, 1) := by decide +kernel
theorem d_LW_law_76 : decode b_LW_law 76 = .ok (.iload 4, 2) := by decide +kernel
theorem d_LW_law_78 : decode b_LW_law 78 = .ok (.iaload, 1) := by decide +kernel
theorem d_LW_law_79 : decode b_LW_law 79 = .ok (.bipush 7, 2) := by decide +kernel
theorem d_LW_law_81 : decode b_LW_law 81 = .ok (.iand, 1) := by decide +kernel
theorem d_LW_law_82 : decode b_LW_law 82 = .ok (.tableswitch 595 0 6 #[42, 121, 244, 312, 403, 471, 539], 42) := by decide +kernel
theorem d_LW_law_124 : decode b_LW_law 124 = .ok (.aload_n 1, 1) := by decide +kernel
theorem d_LW_law_125 : decode b_LW_law 125 = .ok (.aload_n 0, 1) := by decide +kernel
theorem d_LW_law_126 : decode b_LW_law 126 = .ok (.iload 4, 2) := by decide +kernel
theorem d_LW_law_128 : decode b_LW_law 128 = .ok (.iconst 1, 1) := by decide +kernel
theorem d_LW_law_129 : decode b_LW_law 129 = .ok (.iadd, 1) := by decide +kernel
theorem d_LW_law_130 : decode b_LW_law 130 = .ok (.iaload, 1) := by decide +kernel
theorem d_LW_law_131 : decode b_LW_law 131 = .ok (.aload_n 0, 1) := by decide +kernel
theorem d_LW_law_132 : decode b_LW_law 132 = .ok (.iload 4, 2) := by decide +kernel
theorem d_LW_law_134 : decode b_LW_law 134 = .ok (.iconst 2, 1) := by decide +kernel
theorem d_LW_law_135 : decode b_LW_law 135 = .ok (.iadd, 1) := by decide +kernel
theorem d_LW_law_136 : decode b_LW_law 136 = .ok (.iaload, 1) := by decide +kernel
theorem d_LW_law_137 : decode b_LW_law 137 = .ok (.aload_n 0, 1) := by decide +kernel
theorem d_LW_law_138 : decode b_LW_law 138 = .ok (.iload 4, 2) := by decide +kernel
theorem d_LW_law_140 : decode b_LW_law 140 = .ok (.iconst 3, 1) := by decide +kernel
theorem d_LW_law_141 : decode b_LW_law 141 = .ok (.iadd, 1) := by decide +kernel
theorem d_LW_law_142 : decode b_LW_law 142 = .ok (.iaload, 1) := by decide +kernel
theorem d_LW_law_143 : decode b_LW_law 143 = .ok (.aload_n 3, 1) := by decide +kernel
theorem d_LW_law_144 : decode b_LW_law 144 = .ok (.invokestatic 53, 3) := by decide +kernel
theorem d_LW_law_147 : decode b_LW_law 147 = .ok (.istore 5, 2) := by decide +kernel
theorem d_LW_law_149 : decode b_LW_law 149 = .ok (.aload_n 2, 1) := by decide +kernel
theorem d_LW_law_150 : decode b_LW_law 150 = .ok (.aload_n 0, 1) := by decide +kernel
theorem d_LW_law_151 : decode b_LW_law 151 = .ok (.iload 4, 2) := by decide +kernel
theorem d_LW_law_153 : decode b_LW_law 153 = .ok (.iconst 1, 1) := by decide +kernel
theorem d_LW_law_154 : decode b_LW_law 154 = .ok (.iadd, 1) := by decide +kernel
theorem d_LW_law_155 : decode b_LW_law 155 = .ok (.iaload, 1) := by decide +kernel
theorem d_LW_law_156 : decode b_LW_law 156 = .ok (.aload_n 0, 1) := by decide +kernel
theorem d_LW_law_157 : decode b_LW_law 157 = .ok (.iload 4, 2) := by decide +kernel
theorem d_LW_law_159 : decode b_LW_law 159 = .ok (.iconst 2, 1) := by decide +kernel
theorem d_LW_law_160 : decode b_LW_law 160 = .ok (.iadd, 1) := by decide +kernel
theorem d_LW_law_161 : decode b_LW_law 161 = .ok (.iaload, 1) := by decide +kernel
theorem d_LW_law_162 : decode b_LW_law 162 = .ok (.aload_n 0, 1) := by decide +kernel
theorem d_LW_law_163 : decode b_LW_law 163 = .ok (.iload 4, 2) := by decide +kernel
theorem d_LW_law_165 : decode b_LW_law 165 = .ok (.iconst 3, 1) := by decide +kernel
theorem d_LW_law_166 : decode b_LW_law 166 = .ok (.iadd, 1) := by decide +kernel
theorem d_LW_law_167 : decode b_LW_law 167 = .ok (.iaload, 1) := by decide +kernel
theorem d_LW_law_168 : decode b_LW_law 168 = .ok (.invokevirtual 56, 3) := by decide +kernel
theorem d_LW_law_171 : decode b_LW_law 171 = .ok (.lstore 6, 2) := by decide +kernel
theorem d_LW_law_173 : decode b_LW_law 173 = .ok (.aload_n 2, 1) := by decide +kernel
theorem d_LW_law_174 : decode b_LW_law 174 = .ok (.invokevirtual 57, 3) := by decide +kernel
theorem d_LW_law_177 : decode b_LW_law 177 = .ok (.iload 5, 2) := by decide +kernel
theorem d_LW_law_179 : decode b_LW_law 179 = .ok (.if_icmp .eq 5, 3) := by decide +kernel
theorem d_LW_law_182 : decode b_LW_law 182 = .ok (.iconst 0, 1) := by decide +kernel
theorem d_LW_law_183 : decode b_LW_law 183 = .ok (.ireturn, 1) := by decide +kernel
theorem d_LW_law_184 : decode b_LW_law 184 = .ok (.iload 5, 2) := by decide +kernel
theorem d_LW_law_186 : decode b_LW_law 186 = .ok (.ifCond .ne 14, 3) := by decide +kernel
theorem d_LW_law_189 : decode b_LW_law 189 = .ok (.aload_n 3, 1) := by decide +kernel
theorem d_LW_law_190 : decode b_LW_law 190 = .ok (.iconst 0, 1) := by decide +kernel
theorem d_LW_law_191 : decode b_LW_law 191 = .ok (.laload, 1) := by decide +kernel
theorem d_LW_law_192 : decode b_LW_law 192 = .ok (.lload 6, 2) := by decide +kernel
theorem d_LW_law_194 : decode b_LW_law 194 = .ok (.lcmp, 1) := by decide +kernel
theorem d_LW_law_195 : decode b_LW_law 195 = .ok (.ifCond .eq 5, 3) := by decide +kernel
theorem d_LW_law_198 : decode b_LW_law 198 = .ok (.iconst 0, 1) := by decide +kernel
theorem d_LW_law_199 : decode b_LW_law 199 = .ok (.ireturn, 1) := by decide +kernel
theorem d_LW_law_200 : decode b_LW_law 200 = .ok (.goto 477, 3) := by decide +kernel
theorem d_LW_law_203 : decode b_LW_law 203 = .ok (.aload_n 1, 1) := by decide +kernel
theorem d_LW_law_204 : decode b_LW_law 204 = .ok (.aload_n 0, 1) := by decide +kernel
theorem d_LW_law_205 : decode b_LW_law 205 = .ok (.iload 4, 2) := by decide +kernel
theorem d_LW_law_207 : decode b_LW_law 207 = .ok (.iconst 1, 1) := by decide +kernel
theorem d_LW_law_208 : decode b_LW_law 208 = .ok (.iadd, 1) := by decide +kernel
theorem d_LW_law_209 : decode b_LW_law 209 = .ok (.iaload, 1) := by decide +kernel
theorem d_LW_law_210 : decode b_LW_law 210 = .ok (.aload_n 0, 1) := by decide +kernel
theorem d_LW_law_211 : decode b_LW_law 211 = .ok (.iload 4, 2) := by decide +kernel
theorem d_LW_law_213 : decode b_LW_law 213 = .ok (.iconst 2, 1) := by decide +kernel
theorem d_LW_law_214 : decode b_LW_law 214 = .ok (.iadd, 1) := by decide +kernel
theorem d_LW_law_215 : decode b_LW_law 215 = .ok (.iaload, 1) := by decide +kernel
theorem d_LW_law_216 : decode b_LW_law 216 = .ok (.i2l, 1) := by decide +kernel
theorem d_LW_law_217 : decode b_LW_law 217 = .ok (.bipush 32, 2) := by decide +kernel
theorem d_LW_law_219 : decode b_LW_law 219 = .ok (.lshl, 1) := by decide +kernel
theorem d_LW_law_220 : decode b_LW_law 220 = .ok (.aload_n 0, 1) := by decide +kernel
theorem d_LW_law_221 : decode b_LW_law 221 = .ok (.iload 4, 2) := by decide +kernel
theorem d_LW_law_223 : decode b_LW_law 223 = .ok (.iconst 3, 1) := by decide +kernel
theorem d_LW_law_224 : decode b_LW_law 224 = .ok (.iadd, 1) := by decide +kernel
theorem d_LW_law_225 : decode b_LW_law 225 = .ok (.iaload, 1) := by decide +kernel
theorem d_LW_law_226 : decode b_LW_law 226 = .ok (.i2l, 1) := by decide +kernel
theorem d_LW_law_227 : decode b_LW_law 227 = .ok (.ldc2_w 61, 3) := by decide +kernel
theorem d_LW_law_230 : decode b_LW_law 230 = .ok (.land, 1) := by decide +kernel
theorem d_LW_law_231 : decode b_LW_law 231 = .ok (.lor, 1) := by decide +kernel
theorem d_LW_law_232 : decode b_LW_law 232 = .ok (.aload_n 0, 1) := by decide +kernel
theorem d_LW_law_233 : decode b_LW_law 233 = .ok (.iload 4, 2) := by decide +kernel
theorem d_LW_law_235 : decode b_LW_law 235 = .ok (.iconst 4, 1) := by decide +kernel
theorem d_LW_law_236 : decode b_LW_law 236 = .ok (.iadd, 1) := by decide +kernel
theorem d_LW_law_237 : decode b_LW_law 237 = .ok (.iaload, 1) := by decide +kernel
theorem d_LW_law_238 : decode b_LW_law 238 = .ok (.aload_n 0, 1) := by decide +kernel
theorem d_LW_law_239 : decode b_LW_law 239 = .ok (.iload 4, 2) := by decide +kernel
theorem d_LW_law_241 : decode b_LW_law 241 = .ok (.iconst 5, 1) := by decide +kernel
theorem d_LW_law_242 : decode b_LW_law 242 = .ok (.iadd, 1) := by decide +kernel
theorem d_LW_law_243 : decode b_LW_law 243 = .ok (.iaload, 1) := by decide +kernel
theorem d_LW_law_244 : decode b_LW_law 244 = .ok (.aload_n 3, 1) := by decide +kernel
theorem d_LW_law_245 : decode b_LW_law 245 = .ok (.invokestatic 63, 3) := by decide +kernel
theorem d_LW_law_248 : decode b_LW_law 248 = .ok (.istore 5, 2) := by decide +kernel
theorem d_LW_law_250 : decode b_LW_law 250 = .ok (.aload_n 2, 1) := by decide +kernel
theorem d_LW_law_251 : decode b_LW_law 251 = .ok (.aload_n 0, 1) := by decide +kernel
theorem d_LW_law_252 : decode b_LW_law 252 = .ok (.iload 4, 2) := by decide +kernel
theorem d_LW_law_254 : decode b_LW_law 254 = .ok (.iconst 1, 1) := by decide +kernel
theorem d_LW_law_255 : decode b_LW_law 255 = .ok (.iadd, 1) := by decide +kernel
theorem d_LW_law_256 : decode b_LW_law 256 = .ok (.iaload, 1) := by decide +kernel
theorem d_LW_law_257 : decode b_LW_law 257 = .ok (.aload_n 0, 1) := by decide +kernel
theorem d_LW_law_258 : decode b_LW_law 258 = .ok (.iload 4, 2) := by decide +kernel
theorem d_LW_law_260 : decode b_LW_law 260 = .ok (.iconst 2, 1) := by decide +kernel
theorem d_LW_law_261 : decode b_LW_law 261 = .ok (.iadd, 1) := by decide +kernel
theorem d_LW_law_262 : decode b_LW_law 262 = .ok (.iaload, 1) := by decide +kernel
theorem d_LW_law_263 : decode b_LW_law 263 = .ok (.i2l, 1) := by decide +kernel
theorem d_LW_law_264 : decode b_LW_law 264 = .ok (.bipush 32, 2) := by decide +kernel
theorem d_LW_law_266 : decode b_LW_law 266 = .ok (.lshl, 1) := by decide +kernel
theorem d_LW_law_267 : decode b_LW_law 267 = .ok (.aload_n 0, 1) := by decide +kernel
theorem d_LW_law_268 : decode b_LW_law 268 = .ok (.iload 4, 2) := by decide +kernel
theorem d_LW_law_270 : decode b_LW_law 270 = .ok (.iconst 3, 1) := by decide +kernel
theorem d_LW_law_271 : decode b_LW_law 271 = .ok (.iadd, 1) := by decide +kernel
theorem d_LW_law_272 : decode b_LW_law 272 = .ok (.iaload, 1) := by decide +kernel
theorem d_LW_law_273 : decode b_LW_law 273 = .ok (.i2l, 1) := by decide +kernel
theorem d_LW_law_274 : decode b_LW_law 274 = .ok (.ldc2_w 61, 3) := by decide +kernel
theorem d_LW_law_277 : decode b_LW_law 277 = .ok (.land, 1) := by decide +kernel
theorem d_LW_law_278 : decode b_LW_law 278 = .ok (.lor, 1) := by decide +kernel
theorem d_LW_law_279 : decode b_LW_law 279 = .ok (.aload_n 0, 1) := by decide +kernel
theorem d_LW_law_280 : decode b_LW_law 280 = .ok (.iload 4, 2) := by decide +kernel
theorem d_LW_law_282 : decode b_LW_law 282 = .ok (.iconst 4, 1) := by decide +kernel
theorem d_LW_law_283 : decode b_LW_law 283 = .ok (.iadd, 1) := by decide +kernel
theorem d_LW_law_284 : decode b_LW_law 284 = .ok (.iaload, 1) := by decide +kernel
theorem d_LW_law_285 : decode b_LW_law 285 = .ok (.aload_n 0, 1) := by decide +kernel
theorem d_LW_law_286 : decode b_LW_law 286 = .ok (.iload 4, 2) := by decide +kernel
theorem d_LW_law_288 : decode b_LW_law 288 = .ok (.iconst 5, 1) := by decide +kernel
theorem d_LW_law_289 : decode b_LW_law 289 = .ok (.iadd, 1) := by decide +kernel
theorem d_LW_law_290 : decode b_LW_law 290 = .ok (.iaload, 1) := by decide +kernel
theorem d_LW_law_291 : decode b_LW_law 291 = .ok (.invokevirtual 66, 3) := by decide +kernel
theorem d_LW_law_294 : decode b_LW_law 294 = .ok (.lstore 6, 2) := by decide +kernel
theorem d_LW_law_296 : decode b_LW_law 296 = .ok (.aload_n 2, 1) := by decide +kernel
theorem d_LW_law_297 : decode b_LW_law 297 = .ok (.invokevirtual 57, 3) := by decide +kernel
theorem d_LW_law_300 : decode b_LW_law 300 = .ok (.iload 5, 2) := by decide +kernel
theorem d_LW_law_302 : decode b_LW_law 302 = .ok (.if_icmp .eq 5, 3) := by decide +kernel
theorem d_LW_law_305 : decode b_LW_law 305 = .ok (.iconst 0, 1) := by decide +kernel
theorem d_LW_law_306 : decode b_LW_law 306 = .ok (.ireturn, 1) := by decide +kernel
theorem d_LW_law_307 : decode b_LW_law 307 = .ok (.iload 5, 2) := by decide +kernel
theorem d_LW_law_309 : decode b_LW_law 309 = .ok (.ifCond .ne 14, 3) := by decide +kernel
theorem d_LW_law_312 : decode b_LW_law 312 = .ok (.aload_n 3, 1) := by decide +kernel
theorem d_LW_law_313 : decode b_LW_law 313 = .ok (.iconst 0, 1) := by decide +kernel
theorem d_LW_law_314 : decode b_LW_law 314 = .ok (.laload, 1) := by decide +kernel
theorem d_LW_law_315 : decode b_LW_law 315 = .ok (.lload 6, 2) := by decide +kernel
theorem d_LW_law_317 : decode b_LW_law 317 = .ok (.lcmp, 1) := by decide +kernel
theorem d_LW_law_318 : decode b_LW_law 318 = .ok (.ifCond .eq 5, 3) := by decide +kernel
theorem d_LW_law_321 : decode b_LW_law 321 = .ok (.iconst 0, 1) := by decide +kernel
theorem d_LW_law_322 : decode b_LW_law 322 = .ok (.ireturn, 1) := by decide +kernel
theorem d_LW_law_323 : decode b_LW_law 323 = .ok (.goto 354, 3) := by decide +kernel
theorem d_LW_law_326 : decode b_LW_law 326 = .ok (.aload_n 1, 1) := by decide +kernel
theorem d_LW_law_327 : decode b_LW_law 327 = .ok (.aload_n 0, 1) := by decide +kernel
theorem d_LW_law_328 : decode b_LW_law 328 = .ok (.iload 4, 2) := by decide +kernel
theorem d_LW_law_330 : decode b_LW_law 330 = .ok (.iconst 1, 1) := by decide +kernel
theorem d_LW_law_331 : decode b_LW_law 331 = .ok (.iadd, 1) := by decide +kernel
theorem d_LW_law_332 : decode b_LW_law 332 = .ok (.iaload, 1) := by decide +kernel
theorem d_LW_law_333 : decode b_LW_law 333 = .ok (.aload_n 0, 1) := by decide +kernel
theorem d_LW_law_334 : decode b_LW_law 334 = .ok (.iload 4, 2) := by decide +kernel
theorem d_LW_law_336 : decode b_LW_law 336 = .ok (.iconst 2, 1) := by decide +kernel
theorem d_LW_law_337 : decode b_LW_law 337 = .ok (.iadd, 1) := by decide +kernel
theorem d_LW_law_338 : decode b_LW_law 338 = .ok (.iaload, 1) := by decide +kernel
theorem d_LW_law_339 : decode b_LW_law 339 = .ok (.aload_n 3, 1) := by decide +kernel
theorem d_LW_law_340 : decode b_LW_law 340 = .ok (.invokestatic 67, 3) := by decide +kernel
theorem d_LW_law_343 : decode b_LW_law 343 = .ok (.istore 5, 2) := by decide +kernel
theorem d_LW_law_345 : decode b_LW_law 345 = .ok (.aload_n 2, 1) := by decide +kernel
theorem d_LW_law_346 : decode b_LW_law 346 = .ok (.aload_n 0, 1) := by decide +kernel
theorem d_LW_law_347 : decode b_LW_law 347 = .ok (.iload 4, 2) := by decide +kernel
theorem d_LW_law_349 : decode b_LW_law 349 = .ok (.iconst 1, 1) := by decide +kernel
theorem d_LW_law_350 : decode b_LW_law 350 = .ok (.iadd, 1) := by decide +kernel
theorem d_LW_law_351 : decode b_LW_law 351 = .ok (.iaload, 1) := by decide +kernel
theorem d_LW_law_352 : decode b_LW_law 352 = .ok (.aload_n 0, 1) := by decide +kernel
theorem d_LW_law_353 : decode b_LW_law 353 = .ok (.iload 4, 2) := by decide +kernel
theorem d_LW_law_355 : decode b_LW_law 355 = .ok (.iconst 2, 1) := by decide +kernel
theorem d_LW_law_356 : decode b_LW_law 356 = .ok (.iadd, 1) := by decide +kernel
theorem d_LW_law_357 : decode b_LW_law 357 = .ok (.iaload, 1) := by decide +kernel
theorem d_LW_law_358 : decode b_LW_law 358 = .ok (.invokevirtual 70, 3) := by decide +kernel
theorem d_LW_law_361 : decode b_LW_law 361 = .ok (.istore 6, 2) := by decide +kernel
theorem d_LW_law_363 : decode b_LW_law 363 = .ok (.aload_n 2, 1) := by decide +kernel
theorem d_LW_law_364 : decode b_LW_law 364 = .ok (.invokevirtual 57, 3) := by decide +kernel
theorem d_LW_law_367 : decode b_LW_law 367 = .ok (.iload 5, 2) := by decide +kernel
theorem d_LW_law_369 : decode b_LW_law 369 = .ok (.if_icmp .eq 5, 3) := by decide +kernel
theorem d_LW_law_372 : decode b_LW_law 372 = .ok (.iconst 0, 1) := by decide +kernel
theorem d_LW_law_373 : decode b_LW_law 373 = .ok (.ireturn, 1) := by decide +kernel
theorem d_LW_law_374 : decode b_LW_law 374 = .ok (.iload 5, 2) := by decide +kernel
theorem d_LW_law_376 : decode b_LW_law 376 = .ok (.ifCond .ne 15, 3) := by decide +kernel
theorem d_LW_law_379 : decode b_LW_law 379 = .ok (.aload_n 3, 1) := by decide +kernel
theorem d_LW_law_380 : decode b_LW_law 380 = .ok (.iconst 0, 1) := by decide +kernel
theorem d_LW_law_381 : decode b_LW_law 381 = .ok (.laload, 1) := by decide +kernel
theorem d_LW_law_382 : decode b_LW_law 382 = .ok (.iload 6, 2) := by decide +kernel
theorem d_LW_law_384 : decode b_LW_law 384 = .ok (.i2l, 1) := by decide +kernel
theorem d_LW_law_385 : decode b_LW_law 385 = .ok (.lcmp, 1) := by decide +kernel
theorem d_LW_law_386 : decode b_LW_law 386 = .ok (.ifCond .eq 5, 3) := by decide +kernel
theorem d_LW_law_389 : decode b_LW_law 389 = .ok (.iconst 0, 1) := by decide +kernel
theorem d_LW_law_390 : decode b_LW_law 390 = .ok (.ireturn, 1) := by decide +kernel
theorem d_LW_law_391 : decode b_LW_law 391 = .ok (.goto 286, 3) := by decide +kernel
theorem d_LW_law_394 : decode b_LW_law 394 = .ok (.aload_n 1, 1) := by decide +kernel
theorem d_LW_law_395 : decode b_LW_law 395 = .ok (.aload_n 0, 1) := by decide +kernel
theorem d_LW_law_396 : decode b_LW_law 396 = .ok (.iload 4, 2) := by decide +kernel
theorem d_LW_law_398 : decode b_LW_law 398 = .ok (.iconst 1, 1) := by decide +kernel
theorem d_LW_law_399 : decode b_LW_law 399 = .ok (.iadd, 1) := by decide +kernel
theorem d_LW_law_400 : decode b_LW_law 400 = .ok (.iaload, 1) := by decide +kernel
theorem d_LW_law_401 : decode b_LW_law 401 = .ok (.aload_n 0, 1) := by decide +kernel
theorem d_LW_law_402 : decode b_LW_law 402 = .ok (.iload 4, 2) := by decide +kernel
theorem d_LW_law_404 : decode b_LW_law 404 = .ok (.iconst 2, 1) := by decide +kernel
theorem d_LW_law_405 : decode b_LW_law 405 = .ok (.iadd, 1) := by decide +kernel
theorem d_LW_law_406 : decode b_LW_law 406 = .ok (.iaload, 1) := by decide +kernel
theorem d_LW_law_407 : decode b_LW_law 407 = .ok (.aload_n 0, 1) := by decide +kernel
theorem d_LW_law_408 : decode b_LW_law 408 = .ok (.iload 4, 2) := by decide +kernel
theorem d_LW_law_410 : decode b_LW_law 410 = .ok (.iconst 3, 1) := by decide +kernel
theorem d_LW_law_411 : decode b_LW_law 411 = .ok (.iadd, 1) := by decide +kernel
theorem d_LW_law_412 : decode b_LW_law 412 = .ok (.iaload, 1) := by decide +kernel
theorem d_LW_law_413 : decode b_LW_law 413 = .ok (.aload_n 0, 1) := by decide +kernel
theorem d_LW_law_414 : decode b_LW_law 414 = .ok (.iload 4, 2) := by decide +kernel
theorem d_LW_law_416 : decode b_LW_law 416 = .ok (.iconst 4, 1) := by decide +kernel
theorem d_LW_law_417 : decode b_LW_law 417 = .ok (.iadd, 1) := by decide +kernel
theorem d_LW_law_418 : decode b_LW_law 418 = .ok (.iaload, 1) := by decide +kernel
theorem d_LW_law_419 : decode b_LW_law 419 = .ok (.aload_n 3, 1) := by decide +kernel
theorem d_LW_law_420 : decode b_LW_law 420 = .ok (.invokestatic 71, 3) := by decide +kernel
theorem d_LW_law_423 : decode b_LW_law 423 = .ok (.istore 5, 2) := by decide +kernel
theorem d_LW_law_425 : decode b_LW_law 425 = .ok (.aload_n 2, 1) := by decide +kernel
theorem d_LW_law_426 : decode b_LW_law 426 = .ok (.aload_n 0, 1) := by decide +kernel
theorem d_LW_law_427 : decode b_LW_law 427 = .ok (.iload 4, 2) := by decide +kernel
theorem d_LW_law_429 : decode b_LW_law 429 = .ok (.iconst 1, 1) := by decide +kernel
theorem d_LW_law_430 : decode b_LW_law 430 = .ok (.iadd, 1) := by decide +kernel
theorem d_LW_law_431 : decode b_LW_law 431 = .ok (.iaload, 1) := by decide +kernel
theorem d_LW_law_432 : decode b_LW_law 432 = .ok (.aload_n 0, 1) := by decide +kernel
theorem d_LW_law_433 : decode b_LW_law 433 = .ok (.iload 4, 2) := by decide +kernel
theorem d_LW_law_435 : decode b_LW_law 435 = .ok (.iconst 2, 1) := by decide +kernel
theorem d_LW_law_436 : decode b_LW_law 436 = .ok (.iadd, 1) := by decide +kernel
theorem d_LW_law_437 : decode b_LW_law 437 = .ok (.iaload, 1) := by decide +kernel
theorem d_LW_law_438 : decode b_LW_law 438 = .ok (.aload_n 0, 1) := by decide +kernel
theorem d_LW_law_439 : decode b_LW_law 439 = .ok (.iload 4, 2) := by decide +kernel
theorem d_LW_law_441 : decode b_LW_law 441 = .ok (.iconst 3, 1) := by decide +kernel
theorem d_LW_law_442 : decode b_LW_law 442 = .ok (.iadd, 1) := by decide +kernel
theorem d_LW_law_443 : decode b_LW_law 443 = .ok (.iaload, 1) := by decide +kernel
theorem d_LW_law_444 : decode b_LW_law 444 = .ok (.aload_n 0, 1) := by decide +kernel
theorem d_LW_law_445 : decode b_LW_law 445 = .ok (.iload 4, 2) := by decide +kernel
theorem d_LW_law_447 : decode b_LW_law 447 = .ok (.iconst 4, 1) := by decide +kernel
theorem d_LW_law_448 : decode b_LW_law 448 = .ok (.iadd, 1) := by decide +kernel
theorem d_LW_law_449 : decode b_LW_law 449 = .ok (.iaload, 1) := by decide +kernel
theorem d_LW_law_450 : decode b_LW_law 450 = .ok (.invokevirtual 74, 3) := by decide +kernel
theorem d_LW_law_453 : decode b_LW_law 453 = .ok (.lstore 6, 2) := by decide +kernel
theorem d_LW_law_455 : decode b_LW_law 455 = .ok (.aload_n 2, 1) := by decide +kernel
theorem d_LW_law_456 : decode b_LW_law 456 = .ok (.invokevirtual 57, 3) := by decide +kernel
theorem d_LW_law_459 : decode b_LW_law 459 = .ok (.iload 5, 2) := by decide +kernel
theorem d_LW_law_461 : decode b_LW_law 461 = .ok (.if_icmp .eq 5, 3) := by decide +kernel
theorem d_LW_law_464 : decode b_LW_law 464 = .ok (.iconst 0, 1) := by decide +kernel
theorem d_LW_law_465 : decode b_LW_law 465 = .ok (.ireturn, 1) := by decide +kernel
theorem d_LW_law_466 : decode b_LW_law 466 = .ok (.iload 5, 2) := by decide +kernel
theorem d_LW_law_468 : decode b_LW_law 468 = .ok (.ifCond .ne 14, 3) := by decide +kernel
theorem d_LW_law_471 : decode b_LW_law 471 = .ok (.aload_n 3, 1) := by decide +kernel
theorem d_LW_law_472 : decode b_LW_law 472 = .ok (.iconst 0, 1) := by decide +kernel
theorem d_LW_law_473 : decode b_LW_law 473 = .ok (.laload, 1) := by decide +kernel
theorem d_LW_law_474 : decode b_LW_law 474 = .ok (.lload 6, 2) := by decide +kernel
theorem d_LW_law_476 : decode b_LW_law 476 = .ok (.lcmp, 1) := by decide +kernel
theorem d_LW_law_477 : decode b_LW_law 477 = .ok (.ifCond .eq 5, 3) := by decide +kernel
theorem d_LW_law_480 : decode b_LW_law 480 = .ok (.iconst 0, 1) := by decide +kernel
theorem d_LW_law_481 : decode b_LW_law 481 = .ok (.ireturn, 1) := by decide +kernel
theorem d_LW_law_482 : decode b_LW_law 482 = .ok (.goto 195, 3) := by decide +kernel
theorem d_LW_law_485 : decode b_LW_law 485 = .ok (.aload_n 1, 1) := by decide +kernel
theorem d_LW_law_486 : decode b_LW_law 486 = .ok (.aload_n 0, 1) := by decide +kernel
theorem d_LW_law_487 : decode b_LW_law 487 = .ok (.iload 4, 2) := by decide +kernel
theorem d_LW_law_489 : decode b_LW_law 489 = .ok (.iconst 1, 1) := by decide +kernel
theorem d_LW_law_490 : decode b_LW_law 490 = .ok (.iadd, 1) := by decide +kernel
theorem d_LW_law_491 : decode b_LW_law 491 = .ok (.iaload, 1) := by decide +kernel
theorem d_LW_law_492 : decode b_LW_law 492 = .ok (.aload_n 0, 1) := by decide +kernel
theorem d_LW_law_493 : decode b_LW_law 493 = .ok (.iload 4, 2) := by decide +kernel
theorem d_LW_law_495 : decode b_LW_law 495 = .ok (.iconst 2, 1) := by decide +kernel
theorem d_LW_law_496 : decode b_LW_law 496 = .ok (.iadd, 1) := by decide +kernel
theorem d_LW_law_497 : decode b_LW_law 497 = .ok (.iaload, 1) := by decide +kernel
theorem d_LW_law_498 : decode b_LW_law 498 = .ok (.aload_n 3, 1) := by decide +kernel
theorem d_LW_law_499 : decode b_LW_law 499 = .ok (.invokestatic 75, 3) := by decide +kernel
theorem d_LW_law_502 : decode b_LW_law 502 = .ok (.istore 5, 2) := by decide +kernel
theorem d_LW_law_504 : decode b_LW_law 504 = .ok (.aload_n 2, 1) := by decide +kernel
theorem d_LW_law_505 : decode b_LW_law 505 = .ok (.aload_n 0, 1) := by decide +kernel
theorem d_LW_law_506 : decode b_LW_law 506 = .ok (.iload 4, 2) := by decide +kernel
theorem d_LW_law_508 : decode b_LW_law 508 = .ok (.iconst 1, 1) := by decide +kernel
theorem d_LW_law_509 : decode b_LW_law 509 = .ok (.iadd, 1) := by decide +kernel
theorem d_LW_law_510 : decode b_LW_law 510 = .ok (.iaload, 1) := by decide +kernel
theorem d_LW_law_511 : decode b_LW_law 511 = .ok (.aload_n 0, 1) := by decide +kernel
theorem d_LW_law_512 : decode b_LW_law 512 = .ok (.iload 4, 2) := by decide +kernel
theorem d_LW_law_514 : decode b_LW_law 514 = .ok (.iconst 2, 1) := by decide +kernel
theorem d_LW_law_515 : decode b_LW_law 515 = .ok (.iadd, 1) := by decide +kernel
theorem d_LW_law_516 : decode b_LW_law 516 = .ok (.iaload, 1) := by decide +kernel
theorem d_LW_law_517 : decode b_LW_law 517 = .ok (.invokevirtual 77, 3) := by decide +kernel
theorem d_LW_law_520 : decode b_LW_law 520 = .ok (.istore 6, 2) := by decide +kernel
theorem d_LW_law_522 : decode b_LW_law 522 = .ok (.aload_n 2, 1) := by decide +kernel
theorem d_LW_law_523 : decode b_LW_law 523 = .ok (.invokevirtual 57, 3) := by decide +kernel
theorem d_LW_law_526 : decode b_LW_law 526 = .ok (.iload 5, 2) := by decide +kernel
theorem d_LW_law_528 : decode b_LW_law 528 = .ok (.if_icmp .eq 5, 3) := by decide +kernel
theorem d_LW_law_531 : decode b_LW_law 531 = .ok (.iconst 0, 1) := by decide +kernel
theorem d_LW_law_532 : decode b_LW_law 532 = .ok (.ireturn, 1) := by decide +kernel
theorem d_LW_law_533 : decode b_LW_law 533 = .ok (.iload 5, 2) := by decide +kernel
theorem d_LW_law_535 : decode b_LW_law 535 = .ok (.ifCond .ne 15, 3) := by decide +kernel
theorem d_LW_law_538 : decode b_LW_law 538 = .ok (.aload_n 3, 1) := by decide +kernel
theorem d_LW_law_539 : decode b_LW_law 539 = .ok (.iconst 0, 1) := by decide +kernel
theorem d_LW_law_540 : decode b_LW_law 540 = .ok (.laload, 1) := by decide +kernel
theorem d_LW_law_541 : decode b_LW_law 541 = .ok (.iload 6, 2) := by decide +kernel
theorem d_LW_law_543 : decode b_LW_law 543 = .ok (.i2l, 1) := by decide +kernel
theorem d_LW_law_544 : decode b_LW_law 544 = .ok (.lcmp, 1) := by decide +kernel
theorem d_LW_law_545 : decode b_LW_law 545 = .ok (.ifCond .eq 5, 3) := by decide +kernel
theorem d_LW_law_548 : decode b_LW_law 548 = .ok (.iconst 0, 1) := by decide +kernel
theorem d_LW_law_549 : decode b_LW_law 549 = .ok (.ireturn, 1) := by decide +kernel
theorem d_LW_law_550 : decode b_LW_law 550 = .ok (.goto 127, 3) := by decide +kernel
theorem d_LW_law_553 : decode b_LW_law 553 = .ok (.aload_n 1, 1) := by decide +kernel
theorem d_LW_law_554 : decode b_LW_law 554 = .ok (.aload_n 0, 1) := by decide +kernel
theorem d_LW_law_555 : decode b_LW_law 555 = .ok (.iload 4, 2) := by decide +kernel
theorem d_LW_law_557 : decode b_LW_law 557 = .ok (.iconst 1, 1) := by decide +kernel
theorem d_LW_law_558 : decode b_LW_law 558 = .ok (.iadd, 1) := by decide +kernel
theorem d_LW_law_559 : decode b_LW_law 559 = .ok (.iaload, 1) := by decide +kernel
theorem d_LW_law_560 : decode b_LW_law 560 = .ok (.aload_n 0, 1) := by decide +kernel
theorem d_LW_law_561 : decode b_LW_law 561 = .ok (.iload 4, 2) := by decide +kernel
theorem d_LW_law_563 : decode b_LW_law 563 = .ok (.iconst 2, 1) := by decide +kernel
theorem d_LW_law_564 : decode b_LW_law 564 = .ok (.iadd, 1) := by decide +kernel
theorem d_LW_law_565 : decode b_LW_law 565 = .ok (.iaload, 1) := by decide +kernel
theorem d_LW_law_566 : decode b_LW_law 566 = .ok (.aload_n 3, 1) := by decide +kernel
theorem d_LW_law_567 : decode b_LW_law 567 = .ok (.invokestatic 78, 3) := by decide +kernel
theorem d_LW_law_570 : decode b_LW_law 570 = .ok (.istore 5, 2) := by decide +kernel
theorem d_LW_law_572 : decode b_LW_law 572 = .ok (.aload_n 2, 1) := by decide +kernel
theorem d_LW_law_573 : decode b_LW_law 573 = .ok (.aload_n 0, 1) := by decide +kernel
theorem d_LW_law_574 : decode b_LW_law 574 = .ok (.iload 4, 2) := by decide +kernel
theorem d_LW_law_576 : decode b_LW_law 576 = .ok (.iconst 1, 1) := by decide +kernel
theorem d_LW_law_577 : decode b_LW_law 577 = .ok (.iadd, 1) := by decide +kernel
theorem d_LW_law_578 : decode b_LW_law 578 = .ok (.iaload, 1) := by decide +kernel
theorem d_LW_law_579 : decode b_LW_law 579 = .ok (.aload_n 0, 1) := by decide +kernel
theorem d_LW_law_580 : decode b_LW_law 580 = .ok (.iload 4, 2) := by decide +kernel
theorem d_LW_law_582 : decode b_LW_law 582 = .ok (.iconst 2, 1) := by decide +kernel
theorem d_LW_law_583 : decode b_LW_law 583 = .ok (.iadd, 1) := by decide +kernel
theorem d_LW_law_584 : decode b_LW_law 584 = .ok (.iaload, 1) := by decide +kernel
theorem d_LW_law_585 : decode b_LW_law 585 = .ok (.invokevirtual 80, 3) := by decide +kernel
theorem d_LW_law_588 : decode b_LW_law 588 = .ok (.istore 6, 2) := by decide +kernel
theorem d_LW_law_590 : decode b_LW_law 590 = .ok (.aload_n 2, 1) := by decide +kernel
theorem d_LW_law_591 : decode b_LW_law 591 = .ok (.invokevirtual 57, 3) := by decide +kernel
theorem d_LW_law_594 : decode b_LW_law 594 = .ok (.iload 5, 2) := by decide +kernel
theorem d_LW_law_596 : decode b_LW_law 596 = .ok (.if_icmp .eq 5, 3) := by decide +kernel
theorem d_LW_law_599 : decode b_LW_law 599 = .ok (.iconst 0, 1) := by decide +kernel
theorem d_LW_law_600 : decode b_LW_law 600 = .ok (.ireturn, 1) := by decide +kernel
theorem d_LW_law_601 : decode b_LW_law 601 = .ok (.iload 5, 2) := by decide +kernel
theorem d_LW_law_603 : decode b_LW_law 603 = .ok (.ifCond .ne 15, 3) := by decide +kernel
theorem d_LW_law_606 : decode b_LW_law 606 = .ok (.aload_n 3, 1) := by decide +kernel
theorem d_LW_law_607 : decode b_LW_law 607 = .ok (.iconst 0, 1) := by decide +kernel
theorem d_LW_law_608 : decode b_LW_law 608 = .ok (.laload, 1) := by decide +kernel
theorem d_LW_law_609 : decode b_LW_law 609 = .ok (.iload 6, 2) := by decide +kernel
theorem d_LW_law_611 : decode b_LW_law 611 = .ok (.i2l, 1) := by decide +kernel
theorem d_LW_law_612 : decode b_LW_law 612 = .ok (.lcmp, 1) := by decide +kernel
theorem d_LW_law_613 : decode b_LW_law 613 = .ok (.ifCond .eq 5, 3) := by decide +kernel
theorem d_LW_law_616 : decode b_LW_law 616 = .ok (.iconst 0, 1) := by decide +kernel
theorem d_LW_law_617 : decode b_LW_law 617 = .ok (.ireturn, 1) := by decide +kernel
theorem d_LW_law_618 : decode b_LW_law 618 = .ok (.goto 59, 3) := by decide +kernel
theorem d_LW_law_621 : decode b_LW_law 621 = .ok (.aload_n 1, 1) := by decide +kernel
theorem d_LW_law_622 : decode b_LW_law 622 = .ok (.aload_n 0, 1) := by decide +kernel
theorem d_LW_law_623 : decode b_LW_law 623 = .ok (.iload 4, 2) := by decide +kernel
theorem d_LW_law_625 : decode b_LW_law 625 = .ok (.iconst 1, 1) := by decide +kernel
theorem d_LW_law_626 : decode b_LW_law 626 = .ok (.iadd, 1) := by decide +kernel
theorem d_LW_law_627 : decode b_LW_law 627 = .ok (.iaload, 1) := by decide +kernel
theorem d_LW_law_628 : decode b_LW_law 628 = .ok (.aload_n 3, 1) := by decide +kernel
theorem d_LW_law_629 : decode b_LW_law 629 = .ok (.invokestatic 81, 3) := by decide +kernel
theorem d_LW_law_632 : decode b_LW_law 632 = .ok (.istore 5, 2) := by decide +kernel
theorem d_LW_law_634 : decode b_LW_law 634 = .ok (.aload_n 2, 1) := by decide +kernel
theorem d_LW_law_635 : decode b_LW_law 635 = .ok (.aload_n 0, 1) := by decide +kernel
theorem d_LW_law_636 : decode b_LW_law 636 = .ok (.iload 4, 2) := by decide +kernel
theorem d_LW_law_638 : decode b_LW_law 638 = .ok (.iconst 1, 1) := by decide +kernel
theorem d_LW_law_639 : decode b_LW_law 639 = .ok (.iadd, 1) := by decide +kernel
theorem d_LW_law_640 : decode b_LW_law 640 = .ok (.iaload, 1) := by decide +kernel
theorem d_LW_law_641 : decode b_LW_law 641 = .ok (.invokevirtual 84, 3) := by decide +kernel
theorem d_LW_law_644 : decode b_LW_law 644 = .ok (.istore 6, 2) := by decide +kernel
theorem d_LW_law_646 : decode b_LW_law 646 = .ok (.aload_n 2, 1) := by decide +kernel
theorem d_LW_law_647 : decode b_LW_law 647 = .ok (.invokevirtual 57, 3) := by decide +kernel
theorem d_LW_law_650 : decode b_LW_law 650 = .ok (.iload 5, 2) := by decide +kernel
theorem d_LW_law_652 : decode b_LW_law 652 = .ok (.if_icmp .eq 5, 3) := by decide +kernel
theorem d_LW_law_655 : decode b_LW_law 655 = .ok (.iconst 0, 1) := by decide +kernel
theorem d_LW_law_656 : decode b_LW_law 656 = .ok (.ireturn, 1) := by decide +kernel
theorem d_LW_law_657 : decode b_LW_law 657 = .ok (.iload 5, 2) := by decide +kernel
theorem d_LW_law_659 : decode b_LW_law 659 = .ok (.ifCond .ne 15, 3) := by decide +kernel
theorem d_LW_law_662 : decode b_LW_law 662 = .ok (.aload_n 3, 1) := by decide +kernel
theorem d_LW_law_663 : decode b_LW_law 663 = .ok (.iconst 0, 1) := by decide +kernel
theorem d_LW_law_664 : decode b_LW_law 664 = .ok (.laload, 1) := by decide +kernel
theorem d_LW_law_665 : decode b_LW_law 665 = .ok (.iload 6, 2) := by decide +kernel
theorem d_LW_law_667 : decode b_LW_law 667 = .ok (.i2l, 1) := by decide +kernel
theorem d_LW_law_668 : decode b_LW_law 668 = .ok (.lcmp, 1) := by decide +kernel
theorem d_LW_law_669 : decode b_LW_law 669 = .ok (.ifCond .eq 5, 3) := by decide +kernel
theorem d_LW_law_672 : decode b_LW_law 672 = .ok (.iconst 0, 1) := by decide +kernel
theorem d_LW_law_673 : decode b_LW_law 673 = .ok (.ireturn, 1) := by decide +kernel
theorem d_LW_law_674 : decode b_LW_law 674 = .ok (.goto 3, 3) := by decide +kernel
theorem d_LW_law_677 : decode b_LW_law 677 = .ok (.iinc 4 6, 3) := by decide +kernel
theorem d_LW_law_680 : decode b_LW_law 680 = .ok (.goto (-615), 3) := by decide +kernel
theorem d_LW_law_683 : decode b_LW_law 683 = .ok (.iconst 1, 1) := by decide +kernel
theorem d_LW_law_684 : decode b_LW_law 684 = .ok (.ireturn, 1) := by decide +kernel

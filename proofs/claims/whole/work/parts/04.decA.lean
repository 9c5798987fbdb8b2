theorem d_TL_init_0 : decode b_TL_init 0 = .ok (.aload_n 0, 1) := by decide +kernel
theorem d_TL_init_1 : decode b_TL_init 1 = .ok (.invokespecial 3, 3) := by decide +kernel
theorem d_TL_init_4 : decode b_TL_init 4 = .ok (.aload_n 0, 1) := by decide +kernel
theorem d_TL_init_5 : decode b_TL_init 5 = .ok (.sipush 600, 3) := by decide +kernel
theorem d_TL_init_8 : decode b_TL_init 8 = .ok (.newarray .int, 2) := by decide +kernel
theorem d_TL_init_10 : decode b_TL_init 10 = .ok (.putfield 9, 3) := by decide +kernel
theorem d_TL_init_13 : decode b_TL_init 13 = .ok (.return_, 1) := by decide +kernel
theorem d_RW_init_0 : decode b_RW_init 0 = .ok (.aload_n 0, 1) := by decide +kernel
theorem d_RW_init_1 : decode b_RW_init 1 = .ok (.invokespecial 3, 3) := by decide +kernel
theorem d_RW_init_4 : decode b_RW_init 4 = .ok (.iconst 0, 1) := by decide +kernel
theorem d_RW_init_5 : decode b_RW_init 5 = .ok (.iload_n 1, 1) := by decide +kernel
theorem d_RW_init_6 : decode b_RW_init 6 = .ok (.invokestatic 9, 3) := by decide +kernel
theorem d_RW_init_9 : decode b_RW_init 9 = .ok (.istore_n 2, 1) := by decide +kernel
theorem d_RW_init_10 : decode b_RW_init 10 = .ok (.aload_n 0, 1) := by decide +kernel
theorem d_RW_init_11 : decode b_RW_init 11 = .ok (.iload_n 2, 1) := by decide +kernel
theorem d_RW_init_12 : decode b_RW_init 12 = .ok (.newarray .int, 2) := by decide +kernel
theorem d_RW_init_14 : decode b_RW_init 14 = .ok (.putfield 15, 3) := by decide +kernel
theorem d_RW_init_17 : decode b_RW_init 17 = .ok (.aload_n 0, 1) := by decide +kernel
theorem d_RW_init_18 : decode b_RW_init 18 = .ok (.iload_n 2, 1) := by decide +kernel
theorem d_RW_init_19 : decode b_RW_init 19 = .ok (.newarray .int, 2) := by decide +kernel
theorem d_RW_init_21 : decode b_RW_init 21 = .ok (.putfield 21, 3) := by decide +kernel
theorem d_RW_init_24 : decode b_RW_init 24 = .ok (.aload_n 0, 1) := by decide +kernel
theorem d_RW_init_25 : decode b_RW_init 25 = .ok (.iload_n 2, 1) := by decide +kernel
theorem d_RW_init_26 : decode b_RW_init 26 = .ok (.newarray .long, 2) := by decide +kernel
theorem d_RW_init_28 : decode b_RW_init 28 = .ok (.putfield 24, 3) := by decide +kernel
theorem d_RW_init_31 : decode b_RW_init 31 = .ok (.return_, 1) := by decide +kernel
theorem d_RW_append_0 : decode b_RW_append 0 = .ok (.aload_n 0, 1) := by decide +kernel
theorem d_RW_append_1 : decode b_RW_append 1 = .ok (.aload_n 0, 1) := by decide +kernel
theorem d_RW_append_2 : decode b_RW_append 2 = .ok (.getfield 47, 3) := by decide +kernel
theorem d_RW_append_5 : decode b_RW_append 5 = .ok (.invokevirtual 28, 3) := by decide +kernel
theorem d_RW_append_8 : decode b_RW_append 8 = .ok (.ifCond .eq 23, 3) := by decide +kernel
theorem d_RW_append_11 : decode b_RW_append 11 = .ok (.aload_n 0, 1) := by decide +kernel
theorem d_RW_append_12 : decode b_RW_append 12 = .ok (.aload_n 0, 1) := by decide +kernel
theorem d_RW_append_13 : decode b_RW_append 13 = .ok (.getfield 47, 3) := by decide +kernel
theorem d_RW_append_16 : decode b_RW_append 16 = .ok (.aload_n 1, 1) := by decide +kernel
theorem d_RW_append_17 : decode b_RW_append 17 = .ok (.iload_n 2, 1) := by decide +kernel
theorem d_RW_append_18 : decode b_RW_append 18 = .ok (.invokevirtual 51, 3) := by decide +kernel
theorem d_RW_append_21 : decode b_RW_append 21 = .ok (.aload_n 0, 1) := by decide +kernel
theorem d_RW_append_22 : decode b_RW_append 22 = .ok (.dup, 1) := by decide +kernel
theorem d_RW_append_23 : decode b_RW_append 23 = .ok (.getfield 47, 3) := by decide +kernel
theorem d_RW_append_26 : decode b_RW_append 26 = .ok (.iconst 1, 1) := by decide +kernel
theorem d_RW_append_27 : decode b_RW_append 27 = .ok (.iadd, 1) := by decide +kernel
theorem d_RW_append_28 : decode b_RW_append 28 = .ok (.putfield 47, 3) := by decide +kernel
theorem d_RW_append_31 : decode b_RW_append 31 = .ok (.return_, 1) := by decide +kernel
theorem d_RW_has_0 : decode b_RW_has 0 = .ok (.iload_n 1, 1) := by decide +kernel
theorem d_RW_has_1 : decode b_RW_has 1 = .ok (.ifCond .lt 16, 3) := by decide +kernel
theorem d_RW_has_4 : decode b_RW_has 4 = .ok (.iload_n 1, 1) := by decide +kernel
theorem d_RW_has_5 : decode b_RW_has 5 = .ok (.aload_n 0, 1) := by decide +kernel
theorem d_RW_has_6 : decode b_RW_has 6 = .ok (.getfield 15, 3) := by decide +kernel
theorem d_RW_has_9 : decode b_RW_has 9 = .ok (.arraylength, 1) := by decide +kernel
theorem d_RW_has_10 : decode b_RW_has 10 = .ok (.if_icmp .ge 7, 3) := by decide +kernel
theorem d_RW_has_13 : decode b_RW_has 13 = .ok (.iconst 1, 1) := by decide +kernel
theorem d_RW_has_14 : decode b_RW_has 14 = .ok (.goto 4, 3) := by decide +kernel
theorem d_RW_has_17 : decode b_RW_has 17 = .ok (.iconst 0, 1) := by decide +kernel
theorem d_RW_has_18 : decode b_RW_has 18 = .ok (.ireturn, 1) := by decide +kernel
theorem d_RW_copy_0 : decode b_RW_copy 0 = .ok (.aload_n 0, 1) := by decide +kernel
theorem d_RW_copy_1 : decode b_RW_copy 1 = .ok (.iload_n 1, 1) := by decide +kernel
theorem d_RW_copy_2 : decode b_RW_copy 2 = .ok (.aload_n 2, 1) := by decide +kernel
theorem d_RW_copy_3 : decode b_RW_copy 3 = .ok (.iload_n 3, 1) := by decide +kernel
theorem d_RW_copy_4 : decode b_RW_copy 4 = .ok (.invokevirtual 32, 3) := by decide +kernel
theorem d_RW_copy_7 : decode b_RW_copy 7 = .ok (.aload_n 2, 1) := by decide +kernel
theorem d_RW_copy_8 : decode b_RW_copy 8 = .ok (.iload_n 3, 1) := by decide +kernel
theorem d_RW_copy_9 : decode b_RW_copy 9 = .ok (.invokevirtual 36, 3) := by decide +kernel
theorem d_RW_copy_12 : decode b_RW_copy 12 = .ok (.aload_n 2, 1) := by decide +kernel
theorem d_RW_copy_13 : decode b_RW_copy 13 = .ok (.iload_n 3, 1) := by decide +kernel
theorem d_RW_copy_14 : decode b_RW_copy 14 = .ok (.invokevirtual 39, 3) := by decide +kernel
theorem d_RW_copy_17 : decode b_RW_copy 17 = .ok (.invokevirtual 43, 3) := by decide +kernel
theorem d_RW_copy_20 : decode b_RW_copy 20 = .ok (.return_, 1) := by decide +kernel
theorem d_RW_markAt_0 : decode b_RW_markAt 0 = .ok (.aload_n 0, 1) := by decide +kernel
theorem d_RW_markAt_1 : decode b_RW_markAt 1 = .ok (.iload_n 1, 1) := by decide +kernel
theorem d_RW_markAt_2 : decode b_RW_markAt 2 = .ok (.invokevirtual 28, 3) := by decide +kernel
theorem d_RW_markAt_5 : decode b_RW_markAt 5 = .ok (.ifCond .eq 12, 3) := by decide +kernel
theorem d_RW_markAt_8 : decode b_RW_markAt 8 = .ok (.aload_n 0, 1) := by decide +kernel
theorem d_RW_markAt_9 : decode b_RW_markAt 9 = .ok (.getfield 15, 3) := by decide +kernel
theorem d_RW_markAt_12 : decode b_RW_markAt 12 = .ok (.iload_n 1, 1) := by decide +kernel
theorem d_RW_markAt_13 : decode b_RW_markAt 13 = .ok (.iaload, 1) := by decide +kernel
theorem d_RW_markAt_14 : decode b_RW_markAt 14 = .ok (.goto 4, 3) := by decide +kernel
theorem d_RW_markAt_17 : decode b_RW_markAt 17 = .ok (.iconst 0, 1) := by decide +kernel
theorem d_RW_markAt_18 : decode b_RW_markAt 18 = .ok (.ireturn, 1) := by decide +kernel
theorem d_RW_leafAt_0 : decode b_RW_leafAt 0 = .ok (.aload_n 0, 1) := by decide +kernel
theorem d_RW_leafAt_1 : decode b_RW_leafAt 1 = .ok (.iload_n 1, 1) := by decide +kernel
theorem d_RW_leafAt_2 : decode b_RW_leafAt 2 = .ok (.invokevirtual 28, 3) := by decide +kernel
theorem d_RW_leafAt_5 : decode b_RW_leafAt 5 = .ok (.ifCond .eq 12, 3) := by decide +kernel
theorem d_RW_leafAt_8 : decode b_RW_leafAt 8 = .ok (.aload_n 0, 1) := by decide +kernel
theorem d_RW_leafAt_9 : decode b_RW_leafAt 9 = .ok (.getfield 21, 3) := by decide +kernel
theorem d_RW_leafAt_12 : decode b_RW_leafAt 12 = .ok (.iload_n 1, 1) := by decide +kernel
theorem d_RW_leafAt_13 : decode b_RW_leafAt 13 = .ok (.iaload, 1) := by decide +kernel
theorem d_RW_leafAt_14 : decode b_RW_leafAt 14 = .ok (.goto 4, 3) := by decide +kernel
theorem d_RW_leafAt_17 : decode b_RW_leafAt 17 = .ok (.iconst 0, 1) := by decide +kernel
theorem d_RW_leafAt_18 : decode b_RW_leafAt 18 = .ok (.ireturn, 1) := by decide +kernel
theorem d_RW_valueAt_0 : decode b_RW_valueAt 0 = .ok (.aload_n 0, 1) := by decide +kernel
theorem d_RW_valueAt_1 : decode b_RW_valueAt 1 = .ok (.iload_n 1, 1) := by decide +kernel
theorem d_RW_valueAt_2 : decode b_RW_valueAt 2 = .ok (.invokevirtual 28, 3) := by decide +kernel
theorem d_RW_valueAt_5 : decode b_RW_valueAt 5 = .ok (.ifCond .eq 12, 3) := by decide +kernel
theorem d_RW_valueAt_8 : decode b_RW_valueAt 8 = .ok (.aload_n 0, 1) := by decide +kernel
theorem d_RW_valueAt_9 : decode b_RW_valueAt 9 = .ok (.getfield 24, 3) := by decide +kernel
theorem d_RW_valueAt_12 : decode b_RW_valueAt 12 = .ok (.iload_n 1, 1) := by decide +kernel
theorem d_RW_valueAt_13 : decode b_RW_valueAt 13 = .ok (.laload, 1) := by decide +kernel
theorem d_RW_valueAt_14 : decode b_RW_valueAt 14 = .ok (.goto 4, 3) := by decide +kernel
theorem d_RW_valueAt_17 : decode b_RW_valueAt 17 = .ok (.lconst 0, 1) := by decide +kernel
theorem d_RW_valueAt_18 : decode b_RW_valueAt 18 = .ok (.lreturn, 1) := by decide +kernel
theorem d_RW_put_0 : decode b_RW_put 0 = .ok (.aload_n 0, 1) := by decide +kernel
theorem d_RW_put_1 : decode b_RW_put 1 = .ok (.iload_n 1, 1) := by decide +kernel
theorem d_RW_put_2 : decode b_RW_put 2 = .ok (.invokevirtual 28, 3) := by decide +kernel
theorem d_RW_put_5 : decode b_RW_put 5 = .ok (.ifCond .eq 25, 3) := by decide +kernel
theorem d_RW_put_8 : decode b_RW_put 8 = .ok (.aload_n 0, 1) := by decide +kernel
theorem d_RW_put_9 : decode b_RW_put 9 = .ok (.getfield 15, 3) := by decide +kernel
theorem d_RW_put_12 : decode b_RW_put 12 = .ok (.iload_n 1, 1) := by decide +kernel
theorem d_RW_put_13 : decode b_RW_put 13 = .ok (.iload_n 2, 1) := by decide +kernel
theorem d_RW_put_14 : decode b_RW_put 14 = .ok (.iastore, 1) := by decide +kernel
theorem d_RW_put_15 : decode b_RW_put 15 = .ok (.aload_n 0, 1) := by decide +kernel
theorem d_RW_put_16 : decode b_RW_put 16 = .ok (.getfield 21, 3) := by decide +kernel
theorem d_RW_put_19 : decode b_RW_put 19 = .ok (.iload_n 1, 1) := by decide +kernel
theorem d_RW_put_20 : decode b_RW_put 20 = .ok (.iload_n 3, 1) := by decide +kernel
theorem d_RW_put_21 : decode b_RW_put 21 = .ok (.iastore, 1) := by decide +kernel
theorem d_RW_put_22 : decode b_RW_put 22 = .ok (.aload_n 0, 1) := by decide +kernel
theorem d_RW_put_23 : decode b_RW_put 23 = .ok (.getfield 24, 3) := by decide +kernel
theorem d_RW_put_26 : decode b_RW_put 26 = .ok (.iload_n 1, 1) := by decide +kernel
theorem d_RW_put_27 : decode b_RW_put 27 = .ok (.lload 4, 2) := by decide +kernel
theorem d_RW_put_29 : decode b_RW_put 29 = .ok (.lastore, 1) := by decide +kernel
theorem d_RW_put_30 : decode b_RW_put 30 = .ok (.return_, 1) := by decide +kernel
theorem d_RW_find_0 : decode b_RW_find 0 = .ok (.iconst 0, 1) := by decide +kernel
theorem d_RW_find_1 : decode b_RW_find 1 = .ok (.istore_n 2, 1) := by decide +kernel
theorem d_RW_find_2 : decode b_RW_find 2 = .ok (.iload_n 2, 1) := by decide +kernel
theorem d_RW_find_3 : decode b_RW_find 3 = .ok (.aload_n 0, 1) := by decide +kernel
theorem d_RW_find_4 : decode b_RW_find 4 = .ok (.getfield 47, 3) := by decide +kernel
theorem d_RW_find_7 : decode b_RW_find 7 = .ok (.if_icmp .ge 30, 3) := by decide +kernel
theorem d_RW_find_10 : decode b_RW_find 10 = .ok (.iload_n 2, 1) := by decide +kernel
theorem d_RW_find_11 : decode b_RW_find 11 = .ok (.aload_n 0, 1) := by decide +kernel
theorem d_RW_find_12 : decode b_RW_find 12 = .ok (.getfield 15, 3) := by decide +kernel
theorem d_RW_find_15 : decode b_RW_find 15 = .ok (.arraylength, 1) := by decide +kernel
theorem d_RW_find_16 : decode b_RW_find 16 = .ok (.if_icmp .ge 21, 3) := by decide +kernel
theorem d_RW_find_19 : decode b_RW_find 19 = .ok (.aload_n 0, 1) := by decide +kernel
theorem d_RW_find_20 : decode b_RW_find 20 = .ok (.getfield 15, 3) := by decide +kernel
theorem d_RW_find_23 : decode b_RW_find 23 = .ok (.iload_n 2, 1) := by decide +kernel
theorem d_RW_find_24 : decode b_RW_find 24 = .ok (.iaload, 1) := by decide +kernel
theorem d_RW_find_25 : decode b_RW_find 25 = .ok (.iload_n 1, 1) := by decide +kernel
theorem d_RW_find_26 : decode b_RW_find 26 = .ok (.if_icmp .ne 5, 3) := by decide +kernel
theorem d_RW_find_29 : decode b_RW_find 29 = .ok (.iload_n 2, 1) := by decide +kernel
theorem d_RW_find_30 : decode b_RW_find 30 = .ok (.ireturn, 1) := by decide +kernel
theorem d_RW_find_31 : decode b_RW_find 31 = .ok (.iinc 2 1, 3) := by decide +kernel
theorem d_RW_find_34 : decode b_RW_find 34 = .ok (.goto (-32), 3) := by decide +kernel
theorem d_RW_find_37 : decode b_RW_find 37 = .ok (.iconst (-1), 1) := by decide +kernel
theorem d_RW_find_38 : decode b_RW_find 38 = .ok (.ireturn, 1) := by decide +kernel
theorem d_RW_appendNew_0 : decode b_RW_appendNew 0 = .ok (.aload_n 0, 1) := by decide +kernel
theorem d_RW_appendNew_1 : decode b_RW_appendNew 1 = .ok (.aload_n 0, 1) := by decide +kernel
theorem d_RW_appendNew_2 : decode b_RW_appendNew 2 = .ok (.getfield 47, 3) := by decide +kernel
theorem d_RW_appendNew_5 : decode b_RW_appendNew 5 = .ok (.invokevirtual 28, 3) := by decide +kernel
theorem d_RW_appendNew_8 : decode b_RW_appendNew 8 = .ok (.ifCond .eq 24, 3) := by decide +kernel
theorem d_RW_appendNew_11 : decode b_RW_appendNew 11 = .ok (.aload_n 0, 1) := by decide +kernel
theorem d_RW_appendNew_12 : decode b_RW_appendNew 12 = .ok (.aload_n 0, 1) := by decide +kernel
theorem d_RW_appendNew_13 : decode b_RW_appendNew 13 = .ok (.getfield 47, 3) := by decide +kernel
theorem d_RW_appendNew_16 : decode b_RW_appendNew 16 = .ok (.iload_n 1, 1) := by decide +kernel
theorem d_RW_appendNew_17 : decode b_RW_appendNew 17 = .ok (.iconst 0, 1) := by decide +kernel
theorem d_RW_appendNew_18 : decode b_RW_appendNew 18 = .ok (.lconst 0, 1) := by decide +kernel
theorem d_RW_appendNew_19 : decode b_RW_appendNew 19 = .ok (.invokevirtual 43, 3) := by decide +kernel
theorem d_RW_appendNew_22 : decode b_RW_appendNew 22 = .ok (.aload_n 0, 1) := by decide +kernel
theorem d_RW_appendNew_23 : decode b_RW_appendNew 23 = .ok (.dup, 1) := by decide +kernel
theorem d_RW_appendNew_24 : decode b_RW_appendNew 24 = .ok (.getfield 47, 3) := by decide +kernel
theorem d_RW_appendNew_27 : decode b_RW_appendNew 27 = .ok (.iconst 1, 1) := by decide +kernel
theorem d_RW_appendNew_28 : decode b_RW_appendNew 28 = .ok (.iadd, 1) := by decide +kernel
theorem d_RW_appendNew_29 : decode b_RW_appendNew 29 = .ok (.putfield 47, 3) := by decide +kernel
theorem d_RW_appendNew_32 : decode b_RW_appendNew 32 = .ok (.return_, 1) := by decide +kernel
theorem d_TL_add_0 : decode b_TL_add 0 = .ok (.aload_n 0, 1) := by decide +kernel
theorem d_TL_add_1 : decode b_TL_add 1 = .ok (.getfield 15, 3) := by decide +kernel
theorem d_TL_add_4 : decode b_TL_add 4 = .ok (.ifCond .lt 13, 3) := by decide +kernel
theorem d_TL_add_7 : decode b_TL_add 7 = .ok (.aload_n 0, 1) := by decide +kernel
theorem d_TL_add_8 : decode b_TL_add 8 = .ok (.getfield 15, 3) := by decide +kernel
theorem d_TL_add_11 : decode b_TL_add 11 = .ok (.sipush 600, 3) := by decide +kernel
theorem d_TL_add_14 : decode b_TL_add 14 = .ok (.if_icmp .lt 8, 3) := by decide +kernel
theorem d_TL_add_17 : decode b_TL_add 17 = .ok (.aload_n 0, 1) := by decide +kernel
theorem d_TL_add_18 : decode b_TL_add 18 = .ok (.iconst 0, 1) := by decide +kernel
theorem d_TL_add_19 : decode b_TL_add 19 = .ok (.putfield 15, 3) := by decide +kernel
theorem d_TL_add_22 : decode b_TL_add 22 = .ok (.aload_n 0, 1) := by decide +kernel
theorem d_TL_add_23 : decode b_TL_add 23 = .ok (.getfield 9, 3) := by decide +kernel
theorem d_TL_add_26 : decode b_TL_add 26 = .ok (.aload_n 0, 1) := by decide +kernel
theorem d_TL_add_27 : decode b_TL_add 27 = .ok (.getfield 15, 3) := by decide +kernel
theorem d_TL_add_30 : decode b_TL_add 30 = .ok (.iload_n 1, 1) := by decide +kernel
theorem d_TL_add_31 : decode b_TL_add 31 = .ok (.iastore, 1) := by decide +kernel
theorem d_TL_add_32 : decode b_TL_add 32 = .ok (.aload_n 0, 1) := by decide +kernel
theorem d_TL_add_33 : decode b_TL_add 33 = .ok (.dup, 1) := by decide +kernel
theorem d_TL_add_34 : decode b_TL_add 34 = .ok (.getfield 15, 3) := by decide +kernel
theorem d_TL_add_37 : decode b_TL_add 37 = .ok (.iconst 1, 1) := by decide +kernel
theorem d_TL_add_38 : decode b_TL_add 38 = .ok (.iadd, 1) := by decide +kernel
theorem d_TL_add_39 : decode b_TL_add 39 = .ok (.putfield 15, 3) := by decide +kernel
theorem d_TL_add_42 : decode b_TL_add 42 = .ok (.aload_n 0, 1) := by decide +kernel
theorem d_TL_add_43 : decode b_TL_add 43 = .ok (.aload_n 0, 1) := by decide +kernel
theorem d_TL_add_44 : decode b_TL_add 44 = .ok (.getfield 19, 3) := by decide +kernel
theorem d_TL_add_47 : decode b_TL_add 47 = .ok (.iconst 1, 1) := by decide +kernel
theorem d_TL_add_48 : decode b_TL_add 48 = .ok (.iadd, 1) := by decide +kernel
theorem d_TL_add_49 : decode b_TL_add 49 = .ok (.sipush 600, 3) := by decide +kernel
theorem d_TL_add_52 : decode b_TL_add 52 = .ok (.invokestatic 22, 3) := by decide +kernel
theorem d_TL_add_55 : decode b_TL_add 55 = .ok (.putfield 19, 3) := by decide +kernel
theorem d_TL_add_58 : decode b_TL_add 58 = .ok (.return_, 1) := by decide +kernel
theorem d_TL_leafAt_0 : decode b_TL_leafAt 0 = .ok (.aload_n 0, 1) := by decide +kernel
theorem d_TL_leafAt_1 : decode b_TL_leafAt 1 = .ok (.getfield 19, 3) := by decide +kernel
theorem d_TL_leafAt_4 : decode b_TL_leafAt 4 = .ok (.sipush 600, 3) := by decide +kernel
theorem d_TL_leafAt_7 : decode b_TL_leafAt 7 = .ok (.if_icmp .ge 7, 3) := by decide +kernel
theorem d_TL_leafAt_10 : decode b_TL_leafAt 10 = .ok (.iconst 0, 1) := by decide +kernel
theorem d_TL_leafAt_11 : decode b_TL_leafAt 11 = .ok (.goto 7, 3) := by decide +kernel
theorem d_TL_leafAt_14 : decode b_TL_leafAt 14 = .ok (.aload_n 0, 1) := by decide +kernel
theorem d_TL_leafAt_15 : decode b_TL_leafAt 15 = .ok (.getfield 15, 3) := by decide +kernel
theorem d_TL_leafAt_18 : decode b_TL_leafAt 18 = .ok (.istore_n 2, 1) := by decide +kernel
theorem d_TL_leafAt_19 : decode b_TL_leafAt 19 = .ok (.iload_n 2, 1) := by decide +kernel
theorem d_TL_leafAt_20 : decode b_TL_leafAt 20 = .ok (.iload_n 1, 1) := by decide +kernel
theorem d_TL_leafAt_21 : decode b_TL_leafAt 21 = .ok (.iadd, 1) := by decide +kernel
theorem d_TL_leafAt_22 : decode b_TL_leafAt 22 = .ok (.sipush 600, 3) := by decide +kernel
theorem d_TL_leafAt_25 : decode b_TL_leafAt 25 = .ok (.irem, 1) := by decide +kernel
theorem d_TL_leafAt_26 : decode b_TL_leafAt 26 = .ok (.istore_n 3, 1) := by decide +kernel
theorem d_TL_leafAt_27 : decode b_TL_leafAt 27 = .ok (.iload_n 3, 1) := by decide +kernel
theorem d_TL_leafAt_28 : decode b_TL_leafAt 28 = .ok (.ifCond .lt 12, 3) := by decide +kernel
theorem d_TL_leafAt_31 : decode b_TL_leafAt 31 = .ok (.aload_n 0, 1) := by decide +kernel
theorem d_TL_leafAt_32 : decode b_TL_leafAt 32 = .ok (.getfield 9, 3) := by decide +kernel
theorem d_TL_leafAt_35 : decode b_TL_leafAt 35 = .ok (.iload_n 3, 1) := by decide +kernel
theorem d_TL_leafAt_36 : decode b_TL_leafAt 36 = .ok (.iaload, 1) := by decide +kernel
theorem d_TL_leafAt_37 : decode b_TL_leafAt 37 = .ok (.goto 4, 3) := by decide +kernel
theorem d_TL_leafAt_40 : decode b_TL_leafAt 40 = .ok (.iconst 0, 1) := by decide +kernel
theorem d_TL_leafAt_41 : decode b_TL_leafAt 41 = .ok (.ireturn, 1) := by decide +kernel

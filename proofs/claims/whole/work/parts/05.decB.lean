theorem d_TR_init_0 : decode b_TR_init 0 = .ok (.aload_n 0, 1) := by decide +kernel
theorem d_TR_init_1 : decode b_TR_init 1 = .ok (.invokespecial 3, 3) := by decide +kernel
theorem d_TR_init_4 : decode b_TR_init 4 = .ok (.aload_n 0, 1) := by decide +kernel
theorem d_TR_init_5 : decode b_TR_init 5 = .ok (.new 9, 3) := by decide +kernel
theorem d_TR_init_8 : decode b_TR_init 8 = .ok (.dup, 1) := by decide +kernel
theorem d_TR_init_9 : decode b_TR_init 9 = .ok (.invokespecial 11, 3) := by decide +kernel
theorem d_TR_init_12 : decode b_TR_init 12 = .ok (.putfield 12, 3) := by decide +kernel
theorem d_TR_init_15 : decode b_TR_init 15 = .ok (.aload_n 0, 1) := by decide +kernel
theorem d_TR_init_16 : decode b_TR_init 16 = .ok (.iload_n 1, 1) := by decide +kernel
theorem d_TR_init_17 : decode b_TR_init 17 = .ok (.putfield 18, 3) := by decide +kernel
theorem d_TR_init_20 : decode b_TR_init 20 = .ok (.aload_n 0, 1) := by decide +kernel
theorem d_TR_init_21 : decode b_TR_init 21 = .ok (.iconst 1, 1) := by decide +kernel
theorem d_TR_init_22 : decode b_TR_init 22 = .ok (.iload_n 1, 1) := by decide +kernel
theorem d_TR_init_23 : decode b_TR_init 23 = .ok (.ishl, 1) := by decide +kernel
theorem d_TR_init_24 : decode b_TR_init 24 = .ok (.putfield 22, 3) := by decide +kernel
theorem d_TR_init_27 : decode b_TR_init 27 = .ok (.aload_n 0, 1) := by decide +kernel
theorem d_TR_init_28 : decode b_TR_init 28 = .ok (.iload_n 2, 1) := by decide +kernel
theorem d_TR_init_29 : decode b_TR_init 29 = .ok (.putfield 25, 3) := by decide +kernel
theorem d_TR_init_32 : decode b_TR_init 32 = .ok (.aload_n 0, 1) := by decide +kernel
theorem d_TR_init_33 : decode b_TR_init 33 = .ok (.iload_n 3, 1) := by decide +kernel
theorem d_TR_init_34 : decode b_TR_init 34 = .ok (.putfield 28, 3) := by decide +kernel
theorem d_TR_init_37 : decode b_TR_init 37 = .ok (.aload_n 0, 1) := by decide +kernel
theorem d_TR_init_38 : decode b_TR_init 38 = .ok (.new 31, 3) := by decide +kernel
theorem d_TR_init_41 : decode b_TR_init 41 = .ok (.dup, 1) := by decide +kernel
theorem d_TR_init_42 : decode b_TR_init 42 = .ok (.iconst 2, 1) := by decide +kernel
theorem d_TR_init_43 : decode b_TR_init 43 = .ok (.aload_n 0, 1) := by decide +kernel
theorem d_TR_init_44 : decode b_TR_init 44 = .ok (.getfield 22, 3) := by decide +kernel
theorem d_TR_init_47 : decode b_TR_init 47 = .ok (.imul, 1) := by decide +kernel
theorem d_TR_init_48 : decode b_TR_init 48 = .ok (.iload_n 2, 1) := by decide +kernel
theorem d_TR_init_49 : decode b_TR_init 49 = .ok (.imul, 1) := by decide +kernel
theorem d_TR_init_50 : decode b_TR_init 50 = .ok (.invokespecial 33, 3) := by decide +kernel
theorem d_TR_init_53 : decode b_TR_init 53 = .ok (.putfield 36, 3) := by decide +kernel
theorem d_TR_init_56 : decode b_TR_init 56 = .ok (.aload_n 0, 1) := by decide +kernel
theorem d_TR_init_57 : decode b_TR_init 57 = .ok (.iconst 2, 1) := by decide +kernel
theorem d_TR_init_58 : decode b_TR_init 58 = .ok (.aload_n 0, 1) := by decide +kernel
theorem d_TR_init_59 : decode b_TR_init 59 = .ok (.getfield 22, 3) := by decide +kernel
theorem d_TR_init_62 : decode b_TR_init 62 = .ok (.imul, 1) := by decide +kernel
theorem d_TR_init_63 : decode b_TR_init 63 = .ok (.newarray .int, 2) := by decide +kernel
theorem d_TR_init_65 : decode b_TR_init 65 = .ok (.putfield 40, 3) := by decide +kernel
theorem d_TR_init_68 : decode b_TR_init 68 = .ok (.aload_n 0, 1) := by decide +kernel
theorem d_TR_init_69 : decode b_TR_init 69 = .ok (.new 31, 3) := by decide +kernel
theorem d_TR_init_72 : decode b_TR_init 72 = .ok (.dup, 1) := by decide +kernel
theorem d_TR_init_73 : decode b_TR_init 73 = .ok (.iload_n 3, 1) := by decide +kernel
theorem d_TR_init_74 : decode b_TR_init 74 = .ok (.invokespecial 33, 3) := by decide +kernel
theorem d_TR_init_77 : decode b_TR_init 77 = .ok (.putfield 44, 3) := by decide +kernel
theorem d_TR_init_80 : decode b_TR_init 80 = .ok (.aload_n 0, 1) := by decide +kernel
theorem d_TR_init_81 : decode b_TR_init 81 = .ok (.new 31, 3) := by decide +kernel
theorem d_TR_init_84 : decode b_TR_init 84 = .ok (.dup, 1) := by decide +kernel
theorem d_TR_init_85 : decode b_TR_init 85 = .ok (.iload 4, 2) := by decide +kernel
theorem d_TR_init_87 : decode b_TR_init 87 = .ok (.invokespecial 33, 3) := by decide +kernel
theorem d_TR_init_90 : decode b_TR_init 90 = .ok (.putfield 47, 3) := by decide +kernel
theorem d_TR_init_93 : decode b_TR_init 93 = .ok (.aload_n 0, 1) := by decide +kernel
theorem d_TR_init_94 : decode b_TR_init 94 = .ok (.iload 4, 2) := by decide +kernel
theorem d_TR_init_96 : decode b_TR_init 96 = .ok (.newarray .int, 2) := by decide +kernel
theorem d_TR_init_98 : decode b_TR_init 98 = .ok (.putfield 50, 3) := by decide +kernel
theorem d_TR_init_101 : decode b_TR_init 101 = .ok (.return_, 1) := by decide +kernel
theorem d_TR_leafModulo_0 : decode b_TR_leafModulo 0 = .ok (.iload_n 1, 1) := by decide +kernel
theorem d_TR_leafModulo_1 : decode b_TR_leafModulo 1 = .ok (.aload_n 0, 1) := by decide +kernel
theorem d_TR_leafModulo_2 : decode b_TR_leafModulo 2 = .ok (.getfield 22, 3) := by decide +kernel
theorem d_TR_leafModulo_5 : decode b_TR_leafModulo 5 = .ok (.iconst 1, 1) := by decide +kernel
theorem d_TR_leafModulo_6 : decode b_TR_leafModulo 6 = .ok (.isub, 1) := by decide +kernel
theorem d_TR_leafModulo_7 : decode b_TR_leafModulo 7 = .ok (.iand, 1) := by decide +kernel
theorem d_TR_leafModulo_8 : decode b_TR_leafModulo 8 = .ok (.ireturn, 1) := by decide +kernel
theorem d_TR_hasLeaf_0 : decode b_TR_hasLeaf 0 = .ok (.iload_n 1, 1) := by decide +kernel
theorem d_TR_hasLeaf_1 : decode b_TR_hasLeaf 1 = .ok (.ifCond .lt 15, 3) := by decide +kernel
theorem d_TR_hasLeaf_4 : decode b_TR_hasLeaf 4 = .ok (.iload_n 1, 1) := by decide +kernel
theorem d_TR_hasLeaf_5 : decode b_TR_hasLeaf 5 = .ok (.aload_n 0, 1) := by decide +kernel
theorem d_TR_hasLeaf_6 : decode b_TR_hasLeaf 6 = .ok (.getfield 22, 3) := by decide +kernel
theorem d_TR_hasLeaf_9 : decode b_TR_hasLeaf 9 = .ok (.if_icmp .ge 7, 3) := by decide +kernel
theorem d_TR_hasLeaf_12 : decode b_TR_hasLeaf 12 = .ok (.iconst 1, 1) := by decide +kernel
theorem d_TR_hasLeaf_13 : decode b_TR_hasLeaf 13 = .ok (.goto 4, 3) := by decide +kernel
theorem d_TR_hasLeaf_16 : decode b_TR_hasLeaf 16 = .ok (.iconst 0, 1) := by decide +kernel
theorem d_TR_hasLeaf_17 : decode b_TR_hasLeaf 17 = .ok (.ireturn, 1) := by decide +kernel
theorem d_TR_gather_0 : decode b_TR_gather 0 = .ok (.aload_n 0, 1) := by decide +kernel
theorem d_TR_gather_1 : decode b_TR_gather 1 = .ok (.iload_n 2, 1) := by decide +kernel
theorem d_TR_gather_2 : decode b_TR_gather 2 = .ok (.putfield 68, 3) := by decide +kernel
theorem d_TR_gather_5 : decode b_TR_gather 5 = .ok (.aload_n 0, 1) := by decide +kernel
theorem d_TR_gather_6 : decode b_TR_gather 6 = .ok (.getfield 47, 3) := by decide +kernel
theorem d_TR_gather_9 : decode b_TR_gather 9 = .ok (.iconst 0, 1) := by decide +kernel
theorem d_TR_gather_10 : decode b_TR_gather 10 = .ok (.putfield 71, 3) := by decide +kernel
theorem d_TR_gather_13 : decode b_TR_gather 13 = .ok (.iconst 0, 1) := by decide +kernel
theorem d_TR_gather_14 : decode b_TR_gather 14 = .ok (.istore_n 3, 1) := by decide +kernel
theorem d_TR_gather_15 : decode b_TR_gather 15 = .ok (.iload_n 3, 1) := by decide +kernel
theorem d_TR_gather_16 : decode b_TR_gather 16 = .ok (.aload_n 0, 1) := by decide +kernel
theorem d_TR_gather_17 : decode b_TR_gather 17 = .ok (.getfield 44, 3) := by decide +kernel
theorem d_TR_gather_20 : decode b_TR_gather 20 = .ok (.getfield 71, 3) := by decide +kernel
theorem d_TR_gather_23 : decode b_TR_gather 23 = .ok (.if_icmp .ge 21, 3) := by decide +kernel
theorem d_TR_gather_26 : decode b_TR_gather 26 = .ok (.aload_n 0, 1) := by decide +kernel
theorem d_TR_gather_27 : decode b_TR_gather 27 = .ok (.getfield 47, 3) := by decide +kernel
theorem d_TR_gather_30 : decode b_TR_gather 30 = .ok (.aload_n 0, 1) := by decide +kernel
theorem d_TR_gather_31 : decode b_TR_gather 31 = .ok (.getfield 44, 3) := by decide +kernel
theorem d_TR_gather_34 : decode b_TR_gather 34 = .ok (.iload_n 3, 1) := by decide +kernel
theorem d_TR_gather_35 : decode b_TR_gather 35 = .ok (.invokevirtual 74, 3) := by decide +kernel
theorem d_TR_gather_38 : decode b_TR_gather 38 = .ok (.iinc 3 1, 3) := by decide +kernel
theorem d_TR_gather_41 : decode b_TR_gather 41 = .ok (.goto (-26), 3) := by decide +kernel
theorem d_TR_gather_44 : decode b_TR_gather 44 = .ok (.iconst 0, 1) := by decide +kernel
theorem d_TR_gather_45 : decode b_TR_gather 45 = .ok (.istore_n 3, 1) := by decide +kernel
theorem d_TR_gather_46 : decode b_TR_gather 46 = .ok (.iload_n 3, 1) := by decide +kernel
theorem d_TR_gather_47 : decode b_TR_gather 47 = .ok (.aload_n 0, 1) := by decide +kernel
theorem d_TR_gather_48 : decode b_TR_gather 48 = .ok (.getfield 18, 3) := by decide +kernel
theorem d_TR_gather_51 : decode b_TR_gather 51 = .ok (.if_icmp .gt 19, 3) := by decide +kernel
theorem d_TR_gather_54 : decode b_TR_gather 54 = .ok (.aload_n 0, 1) := by decide +kernel
theorem d_TR_gather_55 : decode b_TR_gather 55 = .ok (.aload_n 0, 1) := by decide +kernel
theorem d_TR_gather_56 : decode b_TR_gather 56 = .ok (.iload_n 2, 1) := by decide +kernel
theorem d_TR_gather_57 : decode b_TR_gather 57 = .ok (.iload_n 3, 1) := by decide +kernel
theorem d_TR_gather_58 : decode b_TR_gather 58 = .ok (.invokevirtual 78, 3) := by decide +kernel
theorem d_TR_gather_61 : decode b_TR_gather 61 = .ok (.invokevirtual 82, 3) := by decide +kernel
theorem d_TR_gather_64 : decode b_TR_gather 64 = .ok (.iinc 3 1, 3) := by decide +kernel
theorem d_TR_gather_67 : decode b_TR_gather 67 = .ok (.goto (-21), 3) := by decide +kernel
theorem d_TR_gather_70 : decode b_TR_gather 70 = .ok (.aload_n 0, 1) := by decide +kernel
theorem d_TR_gather_71 : decode b_TR_gather 71 = .ok (.aload_n 0, 1) := by decide +kernel
theorem d_TR_gather_72 : decode b_TR_gather 72 = .ok (.getfield 47, 3) := by decide +kernel
theorem d_TR_gather_75 : decode b_TR_gather 75 = .ok (.iload_n 1, 1) := by decide +kernel
theorem d_TR_gather_76 : decode b_TR_gather 76 = .ok (.iconst 1, 1) := by decide +kernel
theorem d_TR_gather_77 : decode b_TR_gather 77 = .ok (.iadd, 1) := by decide +kernel
theorem d_TR_gather_78 : decode b_TR_gather 78 = .ok (.invokevirtual 85, 3) := by decide +kernel
theorem d_TR_gather_81 : decode b_TR_gather 81 = .ok (.putfield 88, 3) := by decide +kernel
theorem d_TR_gather_84 : decode b_TR_gather 84 = .ok (.aload_n 0, 1) := by decide +kernel
theorem d_TR_gather_85 : decode b_TR_gather 85 = .ok (.getfield 88, 3) := by decide +kernel
theorem d_TR_gather_88 : decode b_TR_gather 88 = .ok (.iconst (-1), 1) := by decide +kernel
theorem d_TR_gather_89 : decode b_TR_gather 89 = .ok (.if_icmp .ne 24, 3) := by decide +kernel
theorem d_TR_gather_92 : decode b_TR_gather 92 = .ok (.aload_n 0, 1) := by decide +kernel
theorem d_TR_gather_93 : decode b_TR_gather 93 = .ok (.aload_n 0, 1) := by decide +kernel
theorem d_TR_gather_94 : decode b_TR_gather 94 = .ok (.getfield 47, 3) := by decide +kernel
theorem d_TR_gather_97 : decode b_TR_gather 97 = .ok (.getfield 71, 3) := by decide +kernel
theorem d_TR_gather_100 : decode b_TR_gather 100 = .ok (.putfield 88, 3) := by decide +kernel
theorem d_TR_gather_103 : decode b_TR_gather 103 = .ok (.aload_n 0, 1) := by decide +kernel
theorem d_TR_gather_104 : decode b_TR_gather 104 = .ok (.getfield 47, 3) := by decide +kernel
theorem d_TR_gather_107 : decode b_TR_gather 107 = .ok (.iload_n 1, 1) := by decide +kernel
theorem d_TR_gather_108 : decode b_TR_gather 108 = .ok (.iconst 1, 1) := by decide +kernel
theorem d_TR_gather_109 : decode b_TR_gather 109 = .ok (.iadd, 1) := by decide +kernel
theorem d_TR_gather_110 : decode b_TR_gather 110 = .ok (.invokevirtual 91, 3) := by decide +kernel
theorem d_TR_gather_113 : decode b_TR_gather 113 = .ok (.return_, 1) := by decide +kernel
theorem d_TR_nodeOnWay_0 : decode b_TR_nodeOnWay 0 = .ok (.aload_n 0, 1) := by decide +kernel
theorem d_TR_nodeOnWay_1 : decode b_TR_nodeOnWay 1 = .ok (.getfield 22, 3) := by decide +kernel
theorem d_TR_nodeOnWay_4 : decode b_TR_nodeOnWay 4 = .ok (.iload_n 1, 1) := by decide +kernel
theorem d_TR_nodeOnWay_5 : decode b_TR_nodeOnWay 5 = .ok (.iadd, 1) := by decide +kernel
theorem d_TR_nodeOnWay_6 : decode b_TR_nodeOnWay 6 = .ok (.aload_n 0, 1) := by decide +kernel
theorem d_TR_nodeOnWay_7 : decode b_TR_nodeOnWay 7 = .ok (.getfield 18, 3) := by decide +kernel
theorem d_TR_nodeOnWay_10 : decode b_TR_nodeOnWay 10 = .ok (.iload_n 2, 1) := by decide +kernel
theorem d_TR_nodeOnWay_11 : decode b_TR_nodeOnWay 11 = .ok (.isub, 1) := by decide +kernel
theorem d_TR_nodeOnWay_12 : decode b_TR_nodeOnWay 12 = .ok (.ishr, 1) := by decide +kernel
theorem d_TR_nodeOnWay_13 : decode b_TR_nodeOnWay 13 = .ok (.ireturn, 1) := by decide +kernel
theorem d_TR_gatherNode_0 : decode b_TR_gatherNode 0 = .ok (.iconst 0, 1) := by decide +kernel
theorem d_TR_gatherNode_1 : decode b_TR_gatherNode 1 = .ok (.istore_n 2, 1) := by decide +kernel
theorem d_TR_gatherNode_2 : decode b_TR_gatherNode 2 = .ok (.iload_n 2, 1) := by decide +kernel
theorem d_TR_gatherNode_3 : decode b_TR_gatherNode 3 = .ok (.aload_n 0, 1) := by decide +kernel
theorem d_TR_gatherNode_4 : decode b_TR_gatherNode 4 = .ok (.getfield 25, 3) := by decide +kernel
theorem d_TR_gatherNode_7 : decode b_TR_gatherNode 7 = .ok (.if_icmp .ge 41, 3) := by decide +kernel
theorem d_TR_gatherNode_10 : decode b_TR_gatherNode 10 = .ok (.iload_n 1, 1) := by decide +kernel
theorem d_TR_gatherNode_11 : decode b_TR_gatherNode 11 = .ok (.aload_n 0, 1) := by decide +kernel
theorem d_TR_gatherNode_12 : decode b_TR_gatherNode 12 = .ok (.getfield 25, 3) := by decide +kernel
theorem d_TR_gatherNode_15 : decode b_TR_gatherNode 15 = .ok (.imul, 1) := by decide +kernel
theorem d_TR_gatherNode_16 : decode b_TR_gatherNode 16 = .ok (.iload_n 2, 1) := by decide +kernel
theorem d_TR_gatherNode_17 : decode b_TR_gatherNode 17 = .ok (.iadd, 1) := by decide +kernel
theorem d_TR_gatherNode_18 : decode b_TR_gatherNode 18 = .ok (.istore_n 3, 1) := by decide +kernel
theorem d_TR_gatherNode_19 : decode b_TR_gatherNode 19 = .ok (.aload_n 0, 1) := by decide +kernel
theorem d_TR_gatherNode_20 : decode b_TR_gatherNode 20 = .ok (.getfield 36, 3) := by decide +kernel
theorem d_TR_gatherNode_23 : decode b_TR_gatherNode 23 = .ok (.iload_n 3, 1) := by decide +kernel
theorem d_TR_gatherNode_24 : decode b_TR_gatherNode 24 = .ok (.invokevirtual 57, 3) := by decide +kernel
theorem d_TR_gatherNode_27 : decode b_TR_gatherNode 27 = .ok (.ifCond .eq 15, 3) := by decide +kernel
theorem d_TR_gatherNode_30 : decode b_TR_gatherNode 30 = .ok (.aload_n 0, 1) := by decide +kernel
theorem d_TR_gatherNode_31 : decode b_TR_gatherNode 31 = .ok (.getfield 47, 3) := by decide +kernel
theorem d_TR_gatherNode_34 : decode b_TR_gatherNode 34 = .ok (.aload_n 0, 1) := by decide +kernel
theorem d_TR_gatherNode_35 : decode b_TR_gatherNode 35 = .ok (.getfield 36, 3) := by decide +kernel
theorem d_TR_gatherNode_38 : decode b_TR_gatherNode 38 = .ok (.iload_n 3, 1) := by decide +kernel
theorem d_TR_gatherNode_39 : decode b_TR_gatherNode 39 = .ok (.invokevirtual 74, 3) := by decide +kernel
theorem d_TR_gatherNode_42 : decode b_TR_gatherNode 42 = .ok (.iinc 2 1, 3) := by decide +kernel
theorem d_TR_gatherNode_45 : decode b_TR_gatherNode 45 = .ok (.goto (-43), 3) := by decide +kernel
theorem d_TR_gatherNode_48 : decode b_TR_gatherNode 48 = .ok (.return_, 1) := by decide +kernel
theorem d_TR_soughtValue_0 : decode b_TR_soughtValue 0 = .ok (.aload_n 0, 1) := by decide +kernel
theorem d_TR_soughtValue_1 : decode b_TR_soughtValue 1 = .ok (.getfield 47, 3) := by decide +kernel
theorem d_TR_soughtValue_4 : decode b_TR_soughtValue 4 = .ok (.aload_n 0, 1) := by decide +kernel
theorem d_TR_soughtValue_5 : decode b_TR_soughtValue 5 = .ok (.getfield 88, 3) := by decide +kernel
theorem d_TR_soughtValue_8 : decode b_TR_soughtValue 8 = .ok (.invokevirtual 64, 3) := by decide +kernel
theorem d_TR_soughtValue_11 : decode b_TR_soughtValue 11 = .ok (.lreturn, 1) := by decide +kernel
theorem d_TR_settle_0 : decode b_TR_settle 0 = .ok (.aload_n 0, 1) := by decide +kernel
theorem d_TR_settle_1 : decode b_TR_settle 1 = .ok (.getfield 47, 3) := by decide +kernel
theorem d_TR_settle_4 : decode b_TR_settle 4 = .ok (.aload_n 0, 1) := by decide +kernel
theorem d_TR_settle_5 : decode b_TR_settle 5 = .ok (.getfield 88, 3) := by decide +kernel
theorem d_TR_settle_8 : decode b_TR_settle 8 = .ok (.aload_n 0, 1) := by decide +kernel
theorem d_TR_settle_9 : decode b_TR_settle 9 = .ok (.getfield 47, 3) := by decide +kernel
theorem d_TR_settle_12 : decode b_TR_settle 12 = .ok (.aload_n 0, 1) := by decide +kernel
theorem d_TR_settle_13 : decode b_TR_settle 13 = .ok (.getfield 88, 3) := by decide +kernel
theorem d_TR_settle_16 : decode b_TR_settle 16 = .ok (.invokevirtual 57, 3) := by decide +kernel
theorem d_TR_settle_19 : decode b_TR_settle 19 = .ok (.iload_n 1, 1) := by decide +kernel
theorem d_TR_settle_20 : decode b_TR_settle 20 = .ok (.lload_n 2, 1) := by decide +kernel
theorem d_TR_settle_21 : decode b_TR_settle 21 = .ok (.invokevirtual 94, 3) := by decide +kernel
theorem d_TR_settle_24 : decode b_TR_settle 24 = .ok (.return_, 1) := by decide +kernel
theorem d_TR_fits_0 : decode b_TR_fits 0 = .ok (.aload_n 0, 1) := by decide +kernel
theorem d_TR_fits_1 : decode b_TR_fits 1 = .ok (.getfield 47, 3) := by decide +kernel
theorem d_TR_fits_4 : decode b_TR_fits 4 = .ok (.getfield 71, 3) := by decide +kernel
theorem d_TR_fits_7 : decode b_TR_fits 7 = .ok (.istore_n 1, 1) := by decide +kernel
theorem d_TR_fits_8 : decode b_TR_fits 8 = .ok (.iconst 0, 1) := by decide +kernel
theorem d_TR_fits_9 : decode b_TR_fits 9 = .ok (.istore_n 2, 1) := by decide +kernel
theorem d_TR_fits_10 : decode b_TR_fits 10 = .ok (.iload_n 2, 1) := by decide +kernel
theorem d_TR_fits_11 : decode b_TR_fits 11 = .ok (.aload_n 0, 1) := by decide +kernel
theorem d_TR_fits_12 : decode b_TR_fits 12 = .ok (.getfield 47, 3) := by decide +kernel
theorem d_TR_fits_15 : decode b_TR_fits 15 = .ok (.getfield 71, 3) := by decide +kernel
theorem d_TR_fits_18 : decode b_TR_fits 18 = .ok (.if_icmp .ge 25, 3) := by decide +kernel
theorem d_TR_fits_21 : decode b_TR_fits 21 = .ok (.iload_n 2, 1) := by decide +kernel
theorem d_TR_fits_22 : decode b_TR_fits 22 = .ok (.aload_n 0, 1) := by decide +kernel
theorem d_TR_fits_23 : decode b_TR_fits 23 = .ok (.getfield 50, 3) := by decide +kernel
theorem d_TR_fits_26 : decode b_TR_fits 26 = .ok (.arraylength, 1) := by decide +kernel
theorem d_TR_fits_27 : decode b_TR_fits 27 = .ok (.if_icmp .ge 16, 3) := by decide +kernel
theorem d_TR_fits_30 : decode b_TR_fits 30 = .ok (.aload_n 0, 1) := by decide +kernel
theorem d_TR_fits_31 : decode b_TR_fits 31 = .ok (.getfield 50, 3) := by decide +kernel
theorem d_TR_fits_34 : decode b_TR_fits 34 = .ok (.iload_n 2, 1) := by decide +kernel
theorem d_TR_fits_35 : decode b_TR_fits 35 = .ok (.iconst (-1), 1) := by decide +kernel
theorem d_TR_fits_36 : decode b_TR_fits 36 = .ok (.iastore, 1) := by decide +kernel
theorem d_TR_fits_37 : decode b_TR_fits 37 = .ok (.iinc 2 1, 3) := by decide +kernel
theorem d_TR_fits_40 : decode b_TR_fits 40 = .ok (.goto (-30), 3) := by decide +kernel
theorem d_TR_fits_43 : decode b_TR_fits 43 = .ok (.aload_n 0, 1) := by decide +kernel
theorem d_TR_fits_44 : decode b_TR_fits 44 = .ok (.getfield 18, 3) := by decide +kernel
theorem d_TR_fits_47 : decode b_TR_fits 47 = .ok (.istore_n 2, 1) := by decide +kernel
theorem d_TR_fits_48 : decode b_TR_fits 48 = .ok (.iload_n 2, 1) := by decide +kernel
theorem d_TR_fits_49 : decode b_TR_fits 49 = .ok (.ifCond .lt 26, 3) := by decide +kernel
theorem d_TR_fits_52 : decode b_TR_fits 52 = .ok (.iload_n 1, 1) := by decide +kernel
theorem d_TR_fits_53 : decode b_TR_fits 53 = .ok (.aload_n 0, 1) := by decide +kernel
theorem d_TR_fits_54 : decode b_TR_fits 54 = .ok (.aload_n 0, 1) := by decide +kernel
theorem d_TR_fits_55 : decode b_TR_fits 55 = .ok (.aload_n 0, 1) := by decide +kernel
theorem d_TR_fits_56 : decode b_TR_fits 56 = .ok (.getfield 68, 3) := by decide +kernel
theorem d_TR_fits_59 : decode b_TR_fits 59 = .ok (.iload_n 2, 1) := by decide +kernel
theorem d_TR_fits_60 : decode b_TR_fits 60 = .ok (.invokevirtual 78, 3) := by decide +kernel
theorem d_TR_fits_63 : decode b_TR_fits 63 = .ok (.iload_n 2, 1) := by decide +kernel
theorem d_TR_fits_64 : decode b_TR_fits 64 = .ok (.invokevirtual 98, 3) := by decide +kernel
theorem d_TR_fits_67 : decode b_TR_fits 67 = .ok (.isub, 1) := by decide +kernel
theorem d_TR_fits_68 : decode b_TR_fits 68 = .ok (.istore_n 1, 1) := by decide +kernel
theorem d_TR_fits_69 : decode b_TR_fits 69 = .ok (.iinc 2 (-1), 3) := by decide +kernel
theorem d_TR_fits_72 : decode b_TR_fits 72 = .ok (.goto (-24), 3) := by decide +kernel
theorem d_TR_fits_75 : decode b_TR_fits 75 = .ok (.iload_n 1, 1) := by decide +kernel
theorem d_TR_fits_76 : decode b_TR_fits 76 = .ok (.aload_n 0, 1) := by decide +kernel
theorem d_TR_fits_77 : decode b_TR_fits 77 = .ok (.getfield 28, 3) := by decide +kernel
theorem d_TR_fits_80 : decode b_TR_fits 80 = .ok (.if_icmp .gt 7, 3) := by decide +kernel
theorem d_TR_fits_83 : decode b_TR_fits 83 = .ok (.iconst 1, 1) := by decide +kernel
theorem d_TR_fits_84 : decode b_TR_fits 84 = .ok (.goto 4, 3) := by decide +kernel
theorem d_TR_fits_87 : decode b_TR_fits 87 = .ok (.iconst 0, 1) := by decide +kernel
theorem d_TR_fits_88 : decode b_TR_fits 88 = .ok (.ireturn, 1) := by decide +kernel
theorem d_TR_fillNode_0 : decode b_TR_fillNode 0 = .ok (.iconst 0, 1) := by decide +kernel
theorem d_TR_fillNode_1 : decode b_TR_fillNode 1 = .ok (.istore_n 3, 1) := by decide +kernel
theorem d_TR_fillNode_2 : decode b_TR_fillNode 2 = .ok (.iconst 0, 1) := by decide +kernel
theorem d_TR_fillNode_3 : decode b_TR_fillNode 3 = .ok (.istore 4, 2) := by decide +kernel
theorem d_TR_fillNode_5 : decode b_TR_fillNode 5 = .ok (.iload 4, 2) := by decide +kernel
theorem d_TR_fillNode_7 : decode b_TR_fillNode 7 = .ok (.aload_n 0, 1) := by decide +kernel
theorem d_TR_fillNode_8 : decode b_TR_fillNode 8 = .ok (.getfield 47, 3) := by decide +kernel
theorem d_TR_fillNode_11 : decode b_TR_fillNode 11 = .ok (.getfield 71, 3) := by decide +kernel
theorem d_TR_fillNode_14 : decode b_TR_fillNode 14 = .ok (.if_icmp .ge 74, 3) := by decide +kernel
theorem d_TR_fillNode_17 : decode b_TR_fillNode 17 = .ok (.iload 4, 2) := by decide +kernel
theorem d_TR_fillNode_19 : decode b_TR_fillNode 19 = .ok (.aload_n 0, 1) := by decide +kernel
theorem d_TR_fillNode_20 : decode b_TR_fillNode 20 = .ok (.getfield 50, 3) := by decide +kernel
theorem d_TR_fillNode_23 : decode b_TR_fillNode 23 = .ok (.arraylength, 1) := by decide +kernel
theorem d_TR_fillNode_24 : decode b_TR_fillNode 24 = .ok (.if_icmp .ge 64, 3) := by decide +kernel
theorem d_TR_fillNode_27 : decode b_TR_fillNode 27 = .ok (.iload_n 3, 1) := by decide +kernel
theorem d_TR_fillNode_28 : decode b_TR_fillNode 28 = .ok (.aload_n 0, 1) := by decide +kernel
theorem d_TR_fillNode_29 : decode b_TR_fillNode 29 = .ok (.getfield 25, 3) := by decide +kernel
theorem d_TR_fillNode_32 : decode b_TR_fillNode 32 = .ok (.if_icmp .ge 56, 3) := by decide +kernel
theorem d_TR_fillNode_35 : decode b_TR_fillNode 35 = .ok (.aload_n 0, 1) := by decide +kernel
theorem d_TR_fillNode_36 : decode b_TR_fillNode 36 = .ok (.getfield 50, 3) := by decide +kernel
theorem d_TR_fillNode_39 : decode b_TR_fillNode 39 = .ok (.iload 4, 2) := by decide +kernel
theorem d_TR_fillNode_41 : decode b_TR_fillNode 41 = .ok (.iaload, 1) := by decide +kernel
theorem d_TR_fillNode_42 : decode b_TR_fillNode 42 = .ok (.iconst (-1), 1) := by decide +kernel
theorem d_TR_fillNode_43 : decode b_TR_fillNode 43 = .ok (.if_icmp .ne 39, 3) := by decide +kernel
theorem d_TR_fillNode_46 : decode b_TR_fillNode 46 = .ok (.aload_n 0, 1) := by decide +kernel
theorem d_TR_fillNode_47 : decode b_TR_fillNode 47 = .ok (.aload_n 0, 1) := by decide +kernel
theorem d_TR_fillNode_48 : decode b_TR_fillNode 48 = .ok (.getfield 47, 3) := by decide +kernel
theorem d_TR_fillNode_51 : decode b_TR_fillNode 51 = .ok (.iload 4, 2) := by decide +kernel
theorem d_TR_fillNode_53 : decode b_TR_fillNode 53 = .ok (.invokevirtual 61, 3) := by decide +kernel
theorem d_TR_fillNode_56 : decode b_TR_fillNode 56 = .ok (.iload_n 2, 1) := by decide +kernel
theorem d_TR_fillNode_57 : decode b_TR_fillNode 57 = .ok (.invokevirtual 78, 3) := by decide +kernel
theorem d_TR_fillNode_60 : decode b_TR_fillNode 60 = .ok (.iload_n 1, 1) := by decide +kernel
theorem d_TR_fillNode_61 : decode b_TR_fillNode 61 = .ok (.if_icmp .ne 21, 3) := by decide +kernel
theorem d_TR_fillNode_64 : decode b_TR_fillNode 64 = .ok (.aload_n 0, 1) := by decide +kernel
theorem d_TR_fillNode_65 : decode b_TR_fillNode 65 = .ok (.getfield 50, 3) := by decide +kernel
theorem d_TR_fillNode_68 : decode b_TR_fillNode 68 = .ok (.iload 4, 2) := by decide +kernel
theorem d_TR_fillNode_70 : decode b_TR_fillNode 70 = .ok (.iload_n 1, 1) := by decide +kernel
theorem d_TR_fillNode_71 : decode b_TR_fillNode 71 = .ok (.aload_n 0, 1) := by decide +kernel
theorem d_TR_fillNode_72 : decode b_TR_fillNode 72 = .ok (.getfield 25, 3) := by decide +kernel
theorem d_TR_fillNode_75 : decode b_TR_fillNode 75 = .ok (.imul, 1) := by decide +kernel
theorem d_TR_fillNode_76 : decode b_TR_fillNode 76 = .ok (.iload_n 3, 1) := by decide +kernel
theorem d_TR_fillNode_77 : decode b_TR_fillNode 77 = .ok (.iadd, 1) := by decide +kernel
theorem d_TR_fillNode_78 : decode b_TR_fillNode 78 = .ok (.iastore, 1) := by decide +kernel
theorem d_TR_fillNode_79 : decode b_TR_fillNode 79 = .ok (.iinc 3 1, 3) := by decide +kernel
theorem d_TR_fillNode_82 : decode b_TR_fillNode 82 = .ok (.iinc 4 1, 3) := by decide +kernel
theorem d_TR_fillNode_85 : decode b_TR_fillNode 85 = .ok (.goto (-80), 3) := by decide +kernel
theorem d_TR_fillNode_88 : decode b_TR_fillNode 88 = .ok (.iload_n 3, 1) := by decide +kernel
theorem d_TR_fillNode_89 : decode b_TR_fillNode 89 = .ok (.ireturn, 1) := by decide +kernel
theorem d_TR_carryOut_0 : decode b_TR_carryOut 0 = .ok (.iconst 0, 1) := by decide +kernel
theorem d_TR_carryOut_1 : decode b_TR_carryOut 1 = .ok (.istore_n 1, 1) := by decide +kernel
theorem d_TR_carryOut_2 : decode b_TR_carryOut 2 = .ok (.iload_n 1, 1) := by decide +kernel
theorem d_TR_carryOut_3 : decode b_TR_carryOut 3 = .ok (.aload_n 0, 1) := by decide +kernel
theorem d_TR_carryOut_4 : decode b_TR_carryOut 4 = .ok (.getfield 18, 3) := by decide +kernel
theorem d_TR_carryOut_7 : decode b_TR_carryOut 7 = .ok (.if_icmp .gt 22, 3) := by decide +kernel
theorem d_TR_carryOut_10 : decode b_TR_carryOut 10 = .ok (.aload_n 0, 1) := by decide +kernel
theorem d_TR_carryOut_11 : decode b_TR_carryOut 11 = .ok (.aload_n 0, 1) := by decide +kernel
theorem d_TR_carryOut_12 : decode b_TR_carryOut 12 = .ok (.aload_n 0, 1) := by decide +kernel
theorem d_TR_carryOut_13 : decode b_TR_carryOut 13 = .ok (.getfield 68, 3) := by decide +kernel
theorem d_TR_carryOut_16 : decode b_TR_carryOut 16 = .ok (.iload_n 1, 1) := by decide +kernel
theorem d_TR_carryOut_17 : decode b_TR_carryOut 17 = .ok (.invokevirtual 78, 3) := by decide +kernel
theorem d_TR_carryOut_20 : decode b_TR_carryOut 20 = .ok (.invokevirtual 101, 3) := by decide +kernel
theorem d_TR_carryOut_23 : decode b_TR_carryOut 23 = .ok (.iinc 1 1, 3) := by decide +kernel
theorem d_TR_carryOut_26 : decode b_TR_carryOut 26 = .ok (.goto (-24), 3) := by decide +kernel
theorem d_TR_carryOut_29 : decode b_TR_carryOut 29 = .ok (.aload_n 0, 1) := by decide +kernel
theorem d_TR_carryOut_30 : decode b_TR_carryOut 30 = .ok (.getfield 44, 3) := by decide +kernel
theorem d_TR_carryOut_33 : decode b_TR_carryOut 33 = .ok (.iconst 0, 1) := by decide +kernel
theorem d_TR_carryOut_34 : decode b_TR_carryOut 34 = .ok (.putfield 71, 3) := by decide +kernel
theorem d_TR_carryOut_37 : decode b_TR_carryOut 37 = .ok (.iconst 0, 1) := by decide +kernel
theorem d_TR_carryOut_38 : decode b_TR_carryOut 38 = .ok (.istore_n 1, 1) := by decide +kernel
theorem d_TR_carryOut_39 : decode b_TR_carryOut 39 = .ok (.iload_n 1, 1) := by decide +kernel
theorem d_TR_carryOut_40 : decode b_TR_carryOut 40 = .ok (.aload_n 0, 1) := by decide +kernel
theorem d_TR_carryOut_41 : decode b_TR_carryOut 41 = .ok (.getfield 47, 3) := by decide +kernel
theorem d_TR_carryOut_44 : decode b_TR_carryOut 44 = .ok (.getfield 71, 3) := by decide +kernel
theorem d_TR_carryOut_47 : decode b_TR_carryOut 47 = .ok (.if_icmp .ge 61, 3) := by decide +kernel
theorem d_TR_carryOut_50 : decode b_TR_carryOut 50 = .ok (.iload_n 1, 1) := by decide +kernel
theorem d_TR_carryOut_51 : decode b_TR_carryOut 51 = .ok (.aload_n 0, 1) := by decide +kernel
theorem d_TR_carryOut_52 : decode b_TR_carryOut 52 = .ok (.getfield 50, 3) := by decide +kernel
theorem d_TR_carryOut_55 : decode b_TR_carryOut 55 = .ok (.arraylength, 1) := by decide +kernel
theorem d_TR_carryOut_56 : decode b_TR_carryOut 56 = .ok (.if_icmp .ge 52, 3) := by decide +kernel
theorem d_TR_carryOut_59 : decode b_TR_carryOut 59 = .ok (.aload_n 0, 1) := by decide +kernel
theorem d_TR_carryOut_60 : decode b_TR_carryOut 60 = .ok (.getfield 50, 3) := by decide +kernel
theorem d_TR_carryOut_63 : decode b_TR_carryOut 63 = .ok (.iload_n 1, 1) := by decide +kernel
theorem d_TR_carryOut_64 : decode b_TR_carryOut 64 = .ok (.iaload, 1) := by decide +kernel
theorem d_TR_carryOut_65 : decode b_TR_carryOut 65 = .ok (.iconst (-1), 1) := by decide +kernel
theorem d_TR_carryOut_66 : decode b_TR_carryOut 66 = .ok (.if_icmp .ne 18, 3) := by decide +kernel
theorem d_TR_carryOut_69 : decode b_TR_carryOut 69 = .ok (.aload_n 0, 1) := by decide +kernel
theorem d_TR_carryOut_70 : decode b_TR_carryOut 70 = .ok (.getfield 44, 3) := by decide +kernel
theorem d_TR_carryOut_73 : decode b_TR_carryOut 73 = .ok (.aload_n 0, 1) := by decide +kernel
theorem d_TR_carryOut_74 : decode b_TR_carryOut 74 = .ok (.getfield 47, 3) := by decide +kernel
theorem d_TR_carryOut_77 : decode b_TR_carryOut 77 = .ok (.iload_n 1, 1) := by decide +kernel
theorem d_TR_carryOut_78 : decode b_TR_carryOut 78 = .ok (.invokevirtual 74, 3) := by decide +kernel
theorem d_TR_carryOut_81 : decode b_TR_carryOut 81 = .ok (.goto 21, 3) := by decide +kernel
theorem d_TR_carryOut_84 : decode b_TR_carryOut 84 = .ok (.aload_n 0, 1) := by decide +kernel
theorem d_TR_carryOut_85 : decode b_TR_carryOut 85 = .ok (.getfield 36, 3) := by decide +kernel
theorem d_TR_carryOut_88 : decode b_TR_carryOut 88 = .ok (.aload_n 0, 1) := by decide +kernel
theorem d_TR_carryOut_89 : decode b_TR_carryOut 89 = .ok (.getfield 50, 3) := by decide +kernel
theorem d_TR_carryOut_92 : decode b_TR_carryOut 92 = .ok (.iload_n 1, 1) := by decide +kernel
theorem d_TR_carryOut_93 : decode b_TR_carryOut 93 = .ok (.iaload, 1) := by decide +kernel
theorem d_TR_carryOut_94 : decode b_TR_carryOut 94 = .ok (.aload_n 0, 1) := by decide +kernel
theorem d_TR_carryOut_95 : decode b_TR_carryOut 95 = .ok (.getfield 47, 3) := by decide +kernel
theorem d_TR_carryOut_98 : decode b_TR_carryOut 98 = .ok (.iload_n 1, 1) := by decide +kernel
theorem d_TR_carryOut_99 : decode b_TR_carryOut 99 = .ok (.invokevirtual 104, 3) := by decide +kernel
theorem d_TR_carryOut_102 : decode b_TR_carryOut 102 = .ok (.iinc 1 1, 3) := by decide +kernel
theorem d_TR_carryOut_105 : decode b_TR_carryOut 105 = .ok (.goto (-66), 3) := by decide +kernel
theorem d_TR_carryOut_108 : decode b_TR_carryOut 108 = .ok (.aload_n 0, 1) := by decide +kernel
theorem d_TR_carryOut_109 : decode b_TR_carryOut 109 = .ok (.getfield 12, 3) := by decide +kernel
theorem d_TR_carryOut_112 : decode b_TR_carryOut 112 = .ok (.aload_n 0, 1) := by decide +kernel
theorem d_TR_carryOut_113 : decode b_TR_carryOut 113 = .ok (.getfield 68, 3) := by decide +kernel
theorem d_TR_carryOut_116 : decode b_TR_carryOut 116 = .ok (.invokevirtual 108, 3) := by decide +kernel
theorem d_TR_carryOut_119 : decode b_TR_carryOut 119 = .ok (.return_, 1) := by decide +kernel
theorem d_TR_emptyNode_0 : decode b_TR_emptyNode 0 = .ok (.iconst 0, 1) := by decide +kernel
theorem d_TR_emptyNode_1 : decode b_TR_emptyNode 1 = .ok (.istore_n 2, 1) := by decide +kernel
theorem d_TR_emptyNode_2 : decode b_TR_emptyNode 2 = .ok (.iload_n 2, 1) := by decide +kernel
theorem d_TR_emptyNode_3 : decode b_TR_emptyNode 3 = .ok (.aload_n 0, 1) := by decide +kernel
theorem d_TR_emptyNode_4 : decode b_TR_emptyNode 4 = .ok (.getfield 25, 3) := by decide +kernel
theorem d_TR_emptyNode_7 : decode b_TR_emptyNode 7 = .ok (.if_icmp .ge 27, 3) := by decide +kernel
theorem d_TR_emptyNode_10 : decode b_TR_emptyNode 10 = .ok (.aload_n 0, 1) := by decide +kernel
theorem d_TR_emptyNode_11 : decode b_TR_emptyNode 11 = .ok (.getfield 36, 3) := by decide +kernel
theorem d_TR_emptyNode_14 : decode b_TR_emptyNode 14 = .ok (.iload_n 1, 1) := by decide +kernel
theorem d_TR_emptyNode_15 : decode b_TR_emptyNode 15 = .ok (.aload_n 0, 1) := by decide +kernel
theorem d_TR_emptyNode_16 : decode b_TR_emptyNode 16 = .ok (.getfield 25, 3) := by decide +kernel
theorem d_TR_emptyNode_19 : decode b_TR_emptyNode 19 = .ok (.imul, 1) := by decide +kernel
theorem d_TR_emptyNode_20 : decode b_TR_emptyNode 20 = .ok (.iload_n 2, 1) := by decide +kernel
theorem d_TR_emptyNode_21 : decode b_TR_emptyNode 21 = .ok (.iadd, 1) := by decide +kernel
theorem d_TR_emptyNode_22 : decode b_TR_emptyNode 22 = .ok (.iconst 0, 1) := by decide +kernel
theorem d_TR_emptyNode_23 : decode b_TR_emptyNode 23 = .ok (.iconst 0, 1) := by decide +kernel
theorem d_TR_emptyNode_24 : decode b_TR_emptyNode 24 = .ok (.lconst 0, 1) := by decide +kernel
theorem d_TR_emptyNode_25 : decode b_TR_emptyNode 25 = .ok (.invokevirtual 94, 3) := by decide +kernel
theorem d_TR_emptyNode_28 : decode b_TR_emptyNode 28 = .ok (.iinc 2 1, 3) := by decide +kernel
theorem d_TR_emptyNode_31 : decode b_TR_emptyNode 31 = .ok (.goto (-29), 3) := by decide +kernel
theorem d_TR_emptyNode_34 : decode b_TR_emptyNode 34 = .ok (.aload_n 0, 1) := by decide +kernel
theorem d_TR_emptyNode_35 : decode b_TR_emptyNode 35 = .ok (.iload_n 1, 1) := by decide +kernel
theorem d_TR_emptyNode_36 : decode b_TR_emptyNode 36 = .ok (.invokevirtual 53, 3) := by decide +kernel
theorem d_TR_emptyNode_39 : decode b_TR_emptyNode 39 = .ok (.ifCond .eq 13, 3) := by decide +kernel
theorem d_TR_emptyNode_42 : decode b_TR_emptyNode 42 = .ok (.aload_n 0, 1) := by decide +kernel
theorem d_TR_emptyNode_43 : decode b_TR_emptyNode 43 = .ok (.getfield 40, 3) := by decide +kernel
theorem d_TR_emptyNode_46 : decode b_TR_emptyNode 46 = .ok (.iload_n 1, 1) := by decide +kernel
theorem d_TR_emptyNode_47 : decode b_TR_emptyNode 47 = .ok (.dup2, 1) := by decide +kernel
theorem d_TR_emptyNode_48 : decode b_TR_emptyNode 48 = .ok (.iaload, 1) := by decide +kernel
theorem d_TR_emptyNode_49 : decode b_TR_emptyNode 49 = .ok (.iconst 1, 1) := by decide +kernel
theorem d_TR_emptyNode_50 : decode b_TR_emptyNode 50 = .ok (.iadd, 1) := by decide +kernel
theorem d_TR_emptyNode_51 : decode b_TR_emptyNode 51 = .ok (.iastore, 1) := by decide +kernel
theorem d_TR_emptyNode_52 : decode b_TR_emptyNode 52 = .ok (.return_, 1) := by decide +kernel
theorem d_TR_hasNode_0 : decode b_TR_hasNode 0 = .ok (.iload_n 1, 1) := by decide +kernel
theorem d_TR_hasNode_1 : decode b_TR_hasNode 1 = .ok (.iconst 1, 1) := by decide +kernel
theorem d_TR_hasNode_2 : decode b_TR_hasNode 2 = .ok (.if_icmp .lt 17, 3) := by decide +kernel
theorem d_TR_hasNode_5 : decode b_TR_hasNode 5 = .ok (.iload_n 1, 1) := by decide +kernel
theorem d_TR_hasNode_6 : decode b_TR_hasNode 6 = .ok (.iconst 2, 1) := by decide +kernel
theorem d_TR_hasNode_7 : decode b_TR_hasNode 7 = .ok (.aload_n 0, 1) := by decide +kernel
theorem d_TR_hasNode_8 : decode b_TR_hasNode 8 = .ok (.getfield 22, 3) := by decide +kernel
theorem d_TR_hasNode_11 : decode b_TR_hasNode 11 = .ok (.imul, 1) := by decide +kernel
theorem d_TR_hasNode_12 : decode b_TR_hasNode 12 = .ok (.if_icmp .ge 7, 3) := by decide +kernel
theorem d_TR_hasNode_15 : decode b_TR_hasNode 15 = .ok (.iconst 1, 1) := by decide +kernel
theorem d_TR_hasNode_16 : decode b_TR_hasNode 16 = .ok (.goto 4, 3) := by decide +kernel
theorem d_TR_hasNode_19 : decode b_TR_hasNode 19 = .ok (.iconst 0, 1) := by decide +kernel
theorem d_TR_hasNode_20 : decode b_TR_hasNode 20 = .ok (.ireturn, 1) := by decide +kernel
theorem d_TR_wordAt_0 : decode b_TR_wordAt 0 = .ok (.iload_n 1, 1) := by decide +kernel
theorem d_TR_wordAt_1 : decode b_TR_wordAt 1 = .ok (.aload_n 0, 1) := by decide +kernel
theorem d_TR_wordAt_2 : decode b_TR_wordAt 2 = .ok (.getfield 25, 3) := by decide +kernel
theorem d_TR_wordAt_5 : decode b_TR_wordAt 5 = .ok (.imul, 1) := by decide +kernel
theorem d_TR_wordAt_6 : decode b_TR_wordAt 6 = .ok (.iload_n 2, 1) := by decide +kernel
theorem d_TR_wordAt_7 : decode b_TR_wordAt 7 = .ok (.iadd, 1) := by decide +kernel
theorem d_TR_wordAt_8 : decode b_TR_wordAt 8 = .ok (.istore 4, 2) := by decide +kernel
theorem d_TR_wordAt_10 : decode b_TR_wordAt 10 = .ok (.iload_n 3, 1) := by decide +kernel
theorem d_TR_wordAt_11 : decode b_TR_wordAt 11 = .ok (.lookupswitch 47 #[(0, 25), (1, 36)], 25) := by decide +kernel
theorem d_TR_wordAt_36 : decode b_TR_wordAt 36 = .ok (.aload_n 0, 1) := by decide +kernel
theorem d_TR_wordAt_37 : decode b_TR_wordAt 37 = .ok (.getfield 36, 3) := by decide +kernel
theorem d_TR_wordAt_40 : decode b_TR_wordAt 40 = .ok (.iload 4, 2) := by decide +kernel
theorem d_TR_wordAt_42 : decode b_TR_wordAt 42 = .ok (.invokevirtual 57, 3) := by decide +kernel
theorem d_TR_wordAt_45 : decode b_TR_wordAt 45 = .ok (.i2l, 1) := by decide +kernel
theorem d_TR_wordAt_46 : decode b_TR_wordAt 46 = .ok (.lreturn, 1) := by decide +kernel
theorem d_TR_wordAt_47 : decode b_TR_wordAt 47 = .ok (.aload_n 0, 1) := by decide +kernel
theorem d_TR_wordAt_48 : decode b_TR_wordAt 48 = .ok (.getfield 36, 3) := by decide +kernel
theorem d_TR_wordAt_51 : decode b_TR_wordAt 51 = .ok (.iload 4, 2) := by decide +kernel
theorem d_TR_wordAt_53 : decode b_TR_wordAt 53 = .ok (.invokevirtual 61, 3) := by decide +kernel
theorem d_TR_wordAt_56 : decode b_TR_wordAt 56 = .ok (.i2l, 1) := by decide +kernel
theorem d_TR_wordAt_57 : decode b_TR_wordAt 57 = .ok (.lreturn, 1) := by decide +kernel
theorem d_TR_wordAt_58 : decode b_TR_wordAt 58 = .ok (.aload_n 0, 1) := by decide +kernel
theorem d_TR_wordAt_59 : decode b_TR_wordAt 59 = .ok (.getfield 36, 3) := by decide +kernel
theorem d_TR_wordAt_62 : decode b_TR_wordAt 62 = .ok (.iload 4, 2) := by decide +kernel
theorem d_TR_wordAt_64 : decode b_TR_wordAt 64 = .ok (.invokevirtual 64, 3) := by decide +kernel
theorem d_TR_wordAt_67 : decode b_TR_wordAt 67 = .ok (.lreturn, 1) := by decide +kernel
theorem d_TR_timesWritten_0 : decode b_TR_timesWritten 0 = .ok (.aload_n 0, 1) := by decide +kernel
theorem d_TR_timesWritten_1 : decode b_TR_timesWritten 1 = .ok (.iload_n 1, 1) := by decide +kernel
theorem d_TR_timesWritten_2 : decode b_TR_timesWritten 2 = .ok (.invokevirtual 53, 3) := by decide +kernel
theorem d_TR_timesWritten_5 : decode b_TR_timesWritten 5 = .ok (.ifCond .eq 12, 3) := by decide +kernel
theorem d_TR_timesWritten_8 : decode b_TR_timesWritten 8 = .ok (.aload_n 0, 1) := by decide +kernel
theorem d_TR_timesWritten_9 : decode b_TR_timesWritten 9 = .ok (.getfield 40, 3) := by decide +kernel
theorem d_TR_timesWritten_12 : decode b_TR_timesWritten 12 = .ok (.iload_n 1, 1) := by decide +kernel
theorem d_TR_timesWritten_13 : decode b_TR_timesWritten 13 = .ok (.iaload, 1) := by decide +kernel
theorem d_TR_timesWritten_14 : decode b_TR_timesWritten 14 = .ok (.goto 4, 3) := by decide +kernel
theorem d_TR_timesWritten_17 : decode b_TR_timesWritten 17 = .ok (.iconst 0, 1) := by decide +kernel
theorem d_TR_timesWritten_18 : decode b_TR_timesWritten 18 = .ok (.ireturn, 1) := by decide +kernel

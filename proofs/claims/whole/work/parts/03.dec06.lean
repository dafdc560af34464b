theorem dX2_take_170 : decode cX2_take 170 = .ok (.iload_n 2, 1) := by decide +kernel
theorem dX2_take_171 : decode cX2_take 171 = .ok (.ireturn, 1) := by decide +kernel
theorem dX2_shape_0 : decode cX2_shape 0 = .ok (.aload_n 0, 1) := by decide +kernel
theorem dX2_shape_1 : decode cX2_shape 1 = .ok (.iconst 0, 1) := by decide +kernel
theorem dX2_shape_2 : decode cX2_shape 2 = .ok (.putfield 53, 3) := by decide +kernel
theorem dX2_shape_5 : decode cX2_shape 5 = .ok (.iload_n 1, 1) := by decide +kernel
theorem dX2_shape_6 : decode cX2_shape 6 = .ok (.iconst 0, 1) := by decide +kernel
theorem dX2_shape_7 : decode cX2_shape 7 = .ok (.iconst 4, 1) := by decide +kernel
theorem dX2_shape_8 : decode cX2_shape 8 = .ok (.invokestatic 57, 3) := by decide +kernel
theorem dX2_shape_11 : decode cX2_shape 11 = .ok (.ifCond .eq 27, 3) := by decide +kernel
theorem dX2_shape_14 : decode cX2_shape 14 = .ok (.iload_n 2, 1) := by decide +kernel
theorem dX2_shape_15 : decode cX2_shape 15 = .ok (.iconst 0, 1) := by decide +kernel
theorem dX2_shape_16 : decode cX2_shape 16 = .ok (.bipush 6, 2) := by decide +kernel
theorem dX2_shape_18 : decode cX2_shape 18 = .ok (.invokestatic 57, 3) := by decide +kernel
theorem dX2_shape_21 : decode cX2_shape 21 = .ok (.ifCond .eq 17, 3) := by decide +kernel
theorem dX2_shape_24 : decode cX2_shape 24 = .ok (.aload_n 0, 1) := by decide +kernel
theorem dX2_shape_25 : decode cX2_shape 25 = .ok (.getfield 44, 3) := by decide +kernel
theorem dX2_shape_28 : decode cX2_shape 28 = .ok (.bipush 7, 2) := by decide +kernel
theorem dX2_shape_30 : decode cX2_shape 30 = .ok (.iload_n 1, 1) := by decide +kernel
theorem dX2_shape_31 : decode cX2_shape 31 = .ok (.imul, 1) := by decide +kernel
theorem dX2_shape_32 : decode cX2_shape 32 = .ok (.iload_n 2, 1) := by decide +kernel
theorem dX2_shape_33 : decode cX2_shape 33 = .ok (.iadd, 1) := by decide +kernel
theorem dX2_shape_34 : decode cX2_shape 34 = .ok (.iaload, 1) := by decide +kernel
theorem dX2_shape_35 : decode cX2_shape 35 = .ok (.goto 4, 3) := by decide +kernel
theorem dX2_shape_38 : decode cX2_shape 38 = .ok (.iconst (-1), 1) := by decide +kernel
theorem dX2_shape_39 : decode cX2_shape 39 = .ok (.ireturn, 1) := by decide +kernel
theorem dX2_step_0 : decode cX2_step 0 = .ok (.aload_n 0, 1) := by decide +kernel
theorem dX2_step_1 : decode cX2_step 1 = .ok (.iconst 0, 1) := by decide +kernel
theorem dX2_step_2 : decode cX2_step 2 = .ok (.putfield 53, 3) := by decide +kernel
theorem dX2_step_5 : decode cX2_step 5 = .ok (.iload_n 1, 1) := by decide +kernel
theorem dX2_step_6 : decode cX2_step 6 = .ok (.iconst 0, 1) := by decide +kernel
theorem dX2_step_7 : decode cX2_step 7 = .ok (.bipush 13, 2) := by decide +kernel
theorem dX2_step_9 : decode cX2_step 9 = .ok (.invokestatic 57, 3) := by decide +kernel
theorem dX2_step_12 : decode cX2_step 12 = .ok (.ifCond .eq 12, 3) := by decide +kernel
theorem dX2_step_15 : decode cX2_step 15 = .ok (.aload_n 0, 1) := by decide +kernel
theorem dX2_step_16 : decode cX2_step 16 = .ok (.getfield 47, 3) := by decide +kernel
theorem dX2_step_19 : decode cX2_step 19 = .ok (.iload_n 1, 1) := by decide +kernel
theorem dX2_step_20 : decode cX2_step 20 = .ok (.iaload, 1) := by decide +kernel
theorem dX2_step_21 : decode cX2_step 21 = .ok (.goto 4, 3) := by decide +kernel
theorem dX2_step_24 : decode cX2_step 24 = .ok (.iconst (-1), 1) := by decide +kernel
theorem dX2_step_25 : decode cX2_step 25 = .ok (.ireturn, 1) := by decide +kernel
theorem dX2_bound_0 : decode cX2_bound 0 = .ok (.aload_n 0, 1) := by decide +kernel
theorem dX2_bound_1 : decode cX2_bound 1 = .ok (.iconst 0, 1) := by decide +kernel
theorem dX2_bound_2 : decode cX2_bound 2 = .ok (.putfield 53, 3) := by decide +kernel
theorem dX2_bound_5 : decode cX2_bound 5 = .ok (.iload_n 2, 1) := by decide +kernel
theorem dX2_bound_6 : decode cX2_bound 6 = .ok (.iconst 1, 1) := by decide +kernel
theorem dX2_bound_7 : decode cX2_bound 7 = .ok (.sipush 1000, 3) := by decide +kernel
theorem dX2_bound_10 : decode cX2_bound 10 = .ok (.invokestatic 57, 3) := by decide +kernel
theorem dX2_bound_13 : decode cX2_bound 13 = .ok (.ifCond .eq 21, 3) := by decide +kernel
theorem dX2_bound_16 : decode cX2_bound 16 = .ok (.iload_n 1, 1) := by decide +kernel
theorem dX2_bound_17 : decode cX2_bound 17 = .ok (.iconst 0, 1) := by decide +kernel
theorem dX2_bound_18 : decode cX2_bound 18 = .ok (.iload_n 2, 1) := by decide +kernel
theorem dX2_bound_19 : decode cX2_bound 19 = .ok (.invokestatic 57, 3) := by decide +kernel
theorem dX2_bound_22 : decode cX2_bound 22 = .ok (.ifCond .eq 12, 3) := by decide +kernel
theorem dX2_bound_25 : decode cX2_bound 25 = .ok (.iload_n 3, 1) := by decide +kernel
theorem dX2_bound_26 : decode cX2_bound 26 = .ok (.iconst 0, 1) := by decide +kernel
theorem dX2_bound_27 : decode cX2_bound 27 = .ok (.iconst 1, 1) := by decide +kernel
theorem dX2_bound_28 : decode cX2_bound 28 = .ok (.invokestatic 57, 3) := by decide +kernel
theorem dX2_bound_31 : decode cX2_bound 31 = .ok (.ifCond .ne 5, 3) := by decide +kernel
theorem dX2_bound_34 : decode cX2_bound 34 = .ok (.iconst (-1), 1) := by decide +kernel
theorem dX2_bound_35 : decode cX2_bound 35 = .ok (.ireturn, 1) := by decide +kernel
theorem dX2_bound_36 : decode cX2_bound 36 = .ok (.aload_n 0, 1) := by decide +kernel
theorem dX2_bound_37 : decode cX2_bound 37 = .ok (.getfield 50, 3) := by decide +kernel
theorem dX2_bound_40 : decode cX2_bound 40 = .ok (.bipush 10, 2) := by decide +kernel
theorem dX2_bound_42 : decode cX2_bound 42 = .ok (.iaload, 1) := by decide +kernel
theorem dX2_bound_43 : decode cX2_bound 43 = .ok (.ifCond .ne 6, 3) := by decide +kernel
theorem dX2_bound_46 : decode cX2_bound 46 = .ok (.bipush (-9), 2) := by decide +kernel
theorem dX2_bound_48 : decode cX2_bound 48 = .ok (.ireturn, 1) := by decide +kernel
theorem dX2_bound_49 : decode cX2_bound 49 = .ok (.iconst 0, 1) := by decide +kernel
theorem dX2_bound_50 : decode cX2_bound 50 = .ok (.istore 4, 2) := by decide +kernel
theorem dX2_bound_52 : decode cX2_bound 52 = .ok (.aload_n 0, 1) := by decide +kernel
theorem dX2_bound_53 : decode cX2_bound 53 = .ok (.getfield 47, 3) := by decide +kernel
theorem dX2_bound_56 : decode cX2_bound 56 = .ok (.iconst 0, 1) := by decide +kernel
theorem dX2_bound_57 : decode cX2_bound 57 = .ok (.iaload, 1) := by decide +kernel
theorem dX2_bound_58 : decode cX2_bound 58 = .ok (.i2l, 1) := by decide +kernel
theorem dX2_bound_59 : decode cX2_bound 59 = .ok (.lstore 5, 2) := by decide +kernel
theorem dX2_bound_61 : decode cX2_bound 61 = .ok (.lload 5, 2) := by decide +kernel
theorem dX2_bound_63 : decode cX2_bound 63 = .ok (.iload_n 2, 1) := by decide +kernel
theorem dX2_bound_64 : decode cX2_bound 64 = .ok (.i2l, 1) := by decide +kernel
theorem dX2_bound_65 : decode cX2_bound 65 = .ok (.lmul, 1) := by decide +kernel
theorem dX2_bound_66 : decode cX2_bound 66 = .ok (.iload_n 1, 1) := by decide +kernel
theorem dX2_bound_67 : decode cX2_bound 67 = .ok (.i2l, 1) := by decide +kernel
theorem dX2_bound_68 : decode cX2_bound 68 = .ok (.aload_n 0, 1) := by decide +kernel
theorem dX2_bound_69 : decode cX2_bound 69 = .ok (.getfield 50, 3) := by decide +kernel
theorem dX2_bound_72 : decode cX2_bound 72 = .ok (.bipush 10, 2) := by decide +kernel
theorem dX2_bound_74 : decode cX2_bound 74 = .ok (.iaload, 1) := by decide +kernel
theorem dX2_bound_75 : decode cX2_bound 75 = .ok (.i2l, 1) := by decide +kernel
theorem dX2_bound_76 : decode cX2_bound 76 = .ok (.lmul, 1) := by decide +kernel
theorem dX2_bound_77 : decode cX2_bound 77 = .ok (.lcmp, 1) := by decide +kernel
theorem dX2_bound_78 : decode cX2_bound 78 = .ok (.ifCond .ge 22, 3) := by decide +kernel
theorem dX2_bound_81 : decode cX2_bound 81 = .ok (.iinc 4 1, 3) := by decide +kernel
theorem dX2_bound_84 : decode cX2_bound 84 = .ok (.lload 5, 2) := by decide +kernel
theorem dX2_bound_86 : decode cX2_bound 86 = .ok (.aload_n 0, 1) := by decide +kernel
theorem dX2_bound_87 : decode cX2_bound 87 = .ok (.getfield 47, 3) := by decide +kernel
theorem dX2_bound_90 : decode cX2_bound 90 = .ok (.iload 4, 2) := by decide +kernel
theorem dX2_bound_92 : decode cX2_bound 92 = .ok (.iaload, 1) := by decide +kernel
theorem dX2_bound_93 : decode cX2_bound 93 = .ok (.i2l, 1) := by decide +kernel
theorem dX2_bound_94 : decode cX2_bound 94 = .ok (.ladd, 1) := by decide +kernel
theorem dX2_bound_95 : decode cX2_bound 95 = .ok (.lstore 5, 2) := by decide +kernel
theorem dX2_bound_97 : decode cX2_bound 97 = .ok (.goto (-36), 3) := by decide +kernel
theorem dX2_bound_100 : decode cX2_bound 100 = .ok (.iload_n 3, 1) := by decide +kernel
theorem dX2_bound_101 : decode cX2_bound 101 = .ok (.iconst 1, 1) := by decide +kernel
theorem dX2_bound_102 : decode cX2_bound 102 = .ok (.if_icmp .ne 10, 3) := by decide +kernel
theorem dX2_bound_105 : decode cX2_bound 105 = .ok (.iconst 1, 1) := by decide +kernel
theorem dX2_bound_106 : decode cX2_bound 106 = .ok (.iload 4, 2) := by decide +kernel
theorem dX2_bound_108 : decode cX2_bound 108 = .ok (.ishl, 1) := by decide +kernel
theorem dX2_bound_109 : decode cX2_bound 109 = .ok (.goto 18, 3) := by decide +kernel
theorem dX2_bound_112 : decode cX2_bound 112 = .ok (.iload 4, 2) := by decide +kernel
theorem dX2_bound_114 : decode cX2_bound 114 = .ok (.ifCond .ne 7, 3) := by decide +kernel
theorem dX2_bound_117 : decode cX2_bound 117 = .ok (.iconst 0, 1) := by decide +kernel
theorem dX2_bound_118 : decode cX2_bound 118 = .ok (.goto 9, 3) := by decide +kernel
theorem dX2_bound_121 : decode cX2_bound 121 = .ok (.iconst 1, 1) := by decide +kernel
theorem dX2_bound_122 : decode cX2_bound 122 = .ok (.iload 4, 2) := by decide +kernel
theorem dX2_bound_124 : decode cX2_bound 124 = .ok (.iconst 1, 1) := by decide +kernel
theorem dX2_bound_125 : decode cX2_bound 125 = .ok (.isub, 1) := by decide +kernel
theorem dX2_bound_126 : decode cX2_bound 126 = .ok (.ishl, 1) := by decide +kernel
theorem dX2_bound_127 : decode cX2_bound 127 = .ok (.ireturn, 1) := by decide +kernel
theorem dX2_count_0 : decode cX2_count 0 = .ok (.aload_n 0, 1) := by decide +kernel
theorem dX2_count_1 : decode cX2_count 1 = .ok (.iconst 0, 1) := by decide +kernel
theorem dX2_count_2 : decode cX2_count 2 = .ok (.putfield 53, 3) := by decide +kernel
theorem dX2_count_5 : decode cX2_count 5 = .ok (.iload_n 1, 1) := by decide +kernel
theorem dX2_count_6 : decode cX2_count 6 = .ok (.iconst 0, 1) := by decide +kernel
theorem dX2_count_7 : decode cX2_count 7 = .ok (.bipush 12, 2) := by decide +kernel
theorem dX2_count_9 : decode cX2_count 9 = .ok (.invokestatic 57, 3) := by decide +kernel
theorem dX2_count_12 : decode cX2_count 12 = .ok (.ifCond .ne 5, 3) := by decide +kernel
theorem dX2_count_15 : decode cX2_count 15 = .ok (.iconst (-1), 1) := by decide +kernel
theorem dX2_count_16 : decode cX2_count 16 = .ok (.ireturn, 1) := by decide +kernel
theorem dX2_count_17 : decode cX2_count 17 = .ok (.iconst 0, 1) := by decide +kernel
theorem dX2_count_18 : decode cX2_count 18 = .ok (.istore_n 2, 1) := by decide +kernel
theorem dX2_count_19 : decode cX2_count 19 = .ok (.iconst 0, 1) := by decide +kernel
theorem dX2_count_20 : decode cX2_count 20 = .ok (.istore_n 3, 1) := by decide +kernel
theorem dX2_count_21 : decode cX2_count 21 = .ok (.iload_n 3, 1) := by decide +kernel
theorem dX2_count_22 : decode cX2_count 22 = .ok (.iconst 4, 1) := by decide +kernel
theorem dX2_count_23 : decode cX2_count 23 = .ok (.if_icmp .ge 26, 3) := by decide +kernel
theorem dX2_count_26 : decode cX2_count 26 = .ok (.iload_n 2, 1) := by decide +kernel
theorem dX2_count_27 : decode cX2_count 27 = .ok (.aload_n 0, 1) := by decide +kernel
theorem dX2_count_28 : decode cX2_count 28 = .ok (.getfield 7, 3) := by decide +kernel
theorem dX2_count_31 : decode cX2_count 31 = .ok (.iload_n 3, 1) := by decide +kernel
theorem dX2_count_32 : decode cX2_count 32 = .ok (.baload, 1) := by decide +kernel
theorem dX2_count_33 : decode cX2_count 33 = .ok (.ifCond .eq 7, 3) := by decide +kernel
theorem dX2_count_36 : decode cX2_count 36 = .ok (.iconst 0, 1) := by decide +kernel
theorem dX2_count_37 : decode cX2_count 37 = .ok (.goto 4, 3) := by decide +kernel
theorem dX2_count_40 : decode cX2_count 40 = .ok (.iconst 1, 1) := by decide +kernel
theorem dX2_count_41 : decode cX2_count 41 = .ok (.iadd, 1) := by decide +kernel
theorem dX2_count_42 : decode cX2_count 42 = .ok (.istore_n 2, 1) := by decide +kernel
theorem dX2_count_43 : decode cX2_count 43 = .ok (.iinc 3 1, 3) := by decide +kernel
theorem dX2_count_46 : decode cX2_count 46 = .ok (.goto (-25), 3) := by decide +kernel
theorem dX2_count_49 : decode cX2_count 49 = .ok (.iload_n 1, 1) := by decide +kernel
theorem dX2_count_50 : decode cX2_count 50 = .ok (.ifCond .ne 10, 3) := by decide +kernel
theorem dX2_count_53 : decode cX2_count 53 = .ok (.aload_n 0, 1) := by decide +kernel
theorem dX2_count_54 : decode cX2_count 54 = .ok (.getfield 79, 3) := by decide +kernel
theorem dX2_count_57 : decode cX2_count 57 = .ok (.goto 43, 3) := by decide +kernel
theorem dX2_count_60 : decode cX2_count 60 = .ok (.iload_n 1, 1) := by decide +kernel
theorem dX2_count_61 : decode cX2_count 61 = .ok (.iconst 1, 1) := by decide +kernel
theorem dX2_count_62 : decode cX2_count 62 = .ok (.if_icmp .ne 10, 3) := by decide +kernel
theorem dX2_count_65 : decode cX2_count 65 = .ok (.aload_n 0, 1) := by decide +kernel
theorem dX2_count_66 : decode cX2_count 66 = .ok (.invokevirtual 100, 3) := by decide +kernel
theorem dX2_count_69 : decode cX2_count 69 = .ok (.goto 31, 3) := by decide +kernel
theorem dX2_count_72 : decode cX2_count 72 = .ok (.iload_n 1, 1) := by decide +kernel
theorem dX2_count_73 : decode cX2_count 73 = .ok (.iconst 2, 1) := by decide +kernel
theorem dX2_count_74 : decode cX2_count 74 = .ok (.if_icmp .ne 10, 3) := by decide +kernel
theorem dX2_count_77 : decode cX2_count 77 = .ok (.aload_n 0, 1) := by decide +kernel
theorem dX2_count_78 : decode cX2_count 78 = .ok (.getfield 82, 3) := by decide +kernel
theorem dX2_count_81 : decode cX2_count 81 = .ok (.goto 19, 3) := by decide +kernel
theorem dX2_count_84 : decode cX2_count 84 = .ok (.iload_n 1, 1) := by decide +kernel
theorem dX2_count_85 : decode cX2_count 85 = .ok (.bipush 12, 2) := by decide +kernel
theorem dX2_count_87 : decode cX2_count 87 = .ok (.if_icmp .ne 7, 3) := by decide +kernel
theorem dX2_count_90 : decode cX2_count 90 = .ok (.iload_n 2, 1) := by decide +kernel
theorem dX2_count_91 : decode cX2_count 91 = .ok (.goto 9, 3) := by decide +kernel
theorem dX2_count_94 : decode cX2_count 94 = .ok (.aload_n 0, 1) := by decide +kernel
theorem dX2_count_95 : decode cX2_count 95 = .ok (.getfield 50, 3) := by decide +kernel
theorem dX2_count_98 : decode cX2_count 98 = .ok (.iload_n 1, 1) := by decide +kernel
theorem dX2_count_99 : decode cX2_count 99 = .ok (.iaload, 1) := by decide +kernel
theorem dX2_count_100 : decode cX2_count 100 = .ok (.ireturn, 1) := by decide +kernel
theorem dX2_trace_0 : decode cX2_trace 0 = .ok (.aload_n 0, 1) := by decide +kernel
theorem dX2_trace_1 : decode cX2_trace 1 = .ok (.iconst 0, 1) := by decide +kernel
theorem dX2_trace_2 : decode cX2_trace 2 = .ok (.putfield 53, 3) := by decide +kernel
theorem dX2_trace_5 : decode cX2_trace 5 = .ok (.aload_n 0, 1) := by decide +kernel
theorem dX2_trace_6 : decode cX2_trace 6 = .ok (.getfield 65, 3) := by decide +kernel
theorem dX2_trace_9 : decode cX2_trace 9 = .ok (.lreturn, 1) := by decide +kernel
theorem dL_law_0 : decode cL_law 0 = .ok (.new 7, 3) := by decide +kernel
theorem dL_law_3 : decode cL_law 3 = .ok (.dup, 1) := by decide +kernel
theorem dL_law_4 : decode cL_law 4 = .ok (.invokespecial 9, 3) := by decide +kernel
theorem dL_law_7 : decode cL_law 7 = .ok (.astore_n 1, 1) := by decide +kernel
theorem dL_law_8 : decode cL_law 8 = .ok (.new 10, 3) := by decide +kernel
theorem dL_law_11 : decode cL_law 11 = .ok (.dup, 1) := by decide +kernel
theorem dL_law_12 : decode cL_law 12 = .ok (.invokespecial 12, 3) := by decide +kernel
theorem dL_law_15 : decode cL_law 15 = .ok (.astore_n 2, 1) := by decide +kernel
theorem dL_law_16 : decode cL_law 16 = .ok (.iconst 0, 1) := by decide +kernel
theorem dL_law_17 : decode cL_law 17 = .ok (.istore_n 3, 1) := by decide +kernel
theorem dL_law_18 : decode cL_law 18 = .ok (.iload_n 3, 1) := by decide +kernel
theorem dL_law_19 : decode cL_law 19 = .ok (.aload_n 0, 1) := by decide +kernel
theorem dL_law_20 : decode cL_law 20 = .ok (.arraylength, 1) := by decide +kernel
theorem dL_law_21 : decode cL_law 21 = .ok (.bipush 6, 2) := by decide +kernel
theorem dL_law_23 : decode cL_law 23 = .ok (.isub, 1) := by decide +kernel
theorem dL_law_24 : decode cL_law 24 = .ok (.if_icmp .gt 541, 3) := by decide +kernel
theorem dL_law_27 : decode cL_law 27 = .ok (.aload_n 0, 1) := by decide +kernel
theorem dL_law_28 : decode cL_law 28 = .ok (.iload_n 3, 1) := by decide +kernel
theorem dL_law_29 : decode cL_law 29 = .ok (.iaload, 1) := by decide +kernel
theorem dL_law_30 : decode cL_law 30 = .ok (.bipush 15, 2) := by decide +kernel
theorem dL_law_32 : decode cL_law 32 = .ok (.iand, 1) := by decide +kernel
theorem dL_law_33 : decode cL_law 33 = .ok (.tableswitch 526 0 13 #[71, 120, 143, 176, 255, 278, 311, 334, 367, 390, 423, 446, 489, 512], 71) := by decide +kernel
theorem dL_law_104 : decode cL_law 104 = .ok (.aload_n 1, 1) := by decide +kernel
theorem dL_law_105 : decode cL_law 105 = .ok (.aload_n 0, 1) := by decide +kernel
theorem dL_law_106 : decode cL_law 106 = .ok (.iload_n 3, 1) := by decide +kernel
theorem dL_law_107 : decode cL_law 107 = .ok (.iconst 1, 1) := by decide +kernel
theorem dL_law_108 : decode cL_law 108 = .ok (.iadd, 1) := by decide +kernel
theorem dL_law_109 : decode cL_law 109 = .ok (.iaload, 1) := by decide +kernel
theorem dL_law_110 : decode cL_law 110 = .ok (.aload_n 0, 1) := by decide +kernel
theorem dL_law_111 : decode cL_law 111 = .ok (.iload_n 3, 1) := by decide +kernel
theorem dL_law_112 : decode cL_law 112 = .ok (.iconst 2, 1) := by decide +kernel
theorem dL_law_113 : decode cL_law 113 = .ok (.iadd, 1) := by decide +kernel
theorem dL_law_114 : decode cL_law 114 = .ok (.iaload, 1) := by decide +kernel
theorem dL_law_115 : decode cL_law 115 = .ok (.ifCond .eq 7, 3) := by decide +kernel
theorem dL_law_118 : decode cL_law 118 = .ok (.iconst 1, 1) := by decide +kernel
theorem dL_law_119 : decode cL_law 119 = .ok (.goto 4, 3) := by decide +kernel
theorem dL_law_122 : decode cL_law 122 = .ok (.iconst 0, 1) := by decide +kernel
theorem dL_law_123 : decode cL_law 123 = .ok (.invokevirtual 13, 3) := by decide +kernel
theorem dL_law_126 : decode cL_law 126 = .ok (.aload_n 2, 1) := by decide +kernel
theorem dL_law_127 : decode cL_law 127 = .ok (.aload_n 0, 1) := by decide +kernel
theorem dL_law_128 : decode cL_law 128 = .ok (.iload_n 3, 1) := by decide +kernel
theorem dL_law_129 : decode cL_law 129 = .ok (.iconst 1, 1) := by decide +kernel
theorem dL_law_130 : decode cL_law 130 = .ok (.iadd, 1) := by decide +kernel
theorem dL_law_131 : decode cL_law 131 = .ok (.iaload, 1) := by decide +kernel
theorem dL_law_132 : decode cL_law 132 = .ok (.aload_n 0, 1) := by decide +kernel
theorem dL_law_133 : decode cL_law 133 = .ok (.iload_n 3, 1) := by decide +kernel
theorem dL_law_134 : decode cL_law 134 = .ok (.iconst 2, 1) := by decide +kernel
theorem dL_law_135 : decode cL_law 135 = .ok (.iadd, 1) := by decide +kernel
theorem dL_law_136 : decode cL_law 136 = .ok (.iaload, 1) := by decide +kernel
theorem dL_law_137 : decode cL_law 137 = .ok (.ifCond .eq 7, 3) := by decide +kernel
theorem dL_law_140 : decode cL_law 140 = .ok (.iconst 1, 1) := by decide +kernel
theorem dL_law_141 : decode cL_law 141 = .ok (.goto 4, 3) := by decide +kernel
theorem dL_law_144 : decode cL_law 144 = .ok (.iconst 0, 1) := by decide +kernel
theorem dL_law_145 : decode cL_law 145 = .ok (.invokevirtual 17, 3) := by decide +kernel
theorem dL_law_148 : decode cL_law 148 = .ok (.if_icmp .eq 411, 3) := by decide +kernel
theorem dL_law_151 : decode cL_law 151 = .ok (.iconst 0, 1) := by decide +kernel
theorem dL_law_152 : decode cL_law 152 = .ok (.ireturn, 1) := by decide +kernel
theorem dL_law_153 : decode cL_law 153 = .ok (.aload_n 1, 1) := by decide +kernel
theorem dL_law_154 : decode cL_law 154 = .ok (.aload_n 0, 1) := by decide +kernel
theorem dL_law_155 : decode cL_law 155 = .ok (.iload_n 3, 1) := by decide +kernel
theorem dL_law_156 : decode cL_law 156 = .ok (.iconst 1, 1) := by decide +kernel
theorem dL_law_157 : decode cL_law 157 = .ok (.iadd, 1) := by decide +kernel
theorem dL_law_158 : decode cL_law 158 = .ok (.iaload, 1) := by decide +kernel
theorem dL_law_159 : decode cL_law 159 = .ok (.invokevirtual 18, 3) := by decide +kernel
theorem dL_law_162 : decode cL_law 162 = .ok (.aload_n 2, 1) := by decide +kernel
theorem dL_law_163 : decode cL_law 163 = .ok (.aload_n 0, 1) := by decide +kernel
theorem dL_law_164 : decode cL_law 164 = .ok (.iload_n 3, 1) := by decide +kernel
theorem dL_law_165 : decode cL_law 165 = .ok (.iconst 1, 1) := by decide +kernel
theorem dL_law_166 : decode cL_law 166 = .ok (.iadd, 1) := by decide +kernel
theorem dL_law_167 : decode cL_law 167 = .ok (.iaload, 1) := by decide +kernel
theorem dL_law_168 : decode cL_law 168 = .ok (.invokevirtual 22, 3) := by decide +kernel
theorem dL_law_171 : decode cL_law 171 = .ok (.if_icmp .eq 388, 3) := by decide +kernel
theorem dL_law_174 : decode cL_law 174 = .ok (.iconst 0, 1) := by decide +kernel
theorem dL_law_175 : decode cL_law 175 = .ok (.ireturn, 1) := by decide +kernel
theorem dL_law_176 : decode cL_law 176 = .ok (.aload_n 1, 1) := by decide +kernel
theorem dL_law_177 : decode cL_law 177 = .ok (.aload_n 0, 1) := by decide +kernel
theorem dL_law_178 : decode cL_law 178 = .ok (.iload_n 3, 1) := by decide +kernel
theorem dL_law_179 : decode cL_law 179 = .ok (.iconst 1, 1) := by decide +kernel
theorem dL_law_180 : decode cL_law 180 = .ok (.iadd, 1) := by decide +kernel
theorem dL_law_181 : decode cL_law 181 = .ok (.iaload, 1) := by decide +kernel
theorem dL_law_182 : decode cL_law 182 = .ok (.aload_n 0, 1) := by decide +kernel
theorem dL_law_183 : decode cL_law 183 = .ok (.iload_n 3, 1) := by decide +kernel
theorem dL_law_184 : decode cL_law 184 = .ok (.iconst 2, 1) := by decide +kernel
theorem dL_law_185 : decode cL_law 185 = .ok (.iadd, 1) := by decide +kernel
theorem dL_law_186 : decode cL_law 186 = .ok (.iaload, 1) := by decide +kernel
theorem dL_law_187 : decode cL_law 187 = .ok (.invokevirtual 23, 3) := by decide +kernel
theorem dL_law_190 : decode cL_law 190 = .ok (.aload_n 2, 1) := by decide +kernel
theorem dL_law_191 : decode cL_law 191 = .ok (.aload_n 0, 1) := by decide +kernel
theorem dL_law_192 : decode cL_law 192 = .ok (.iload_n 3, 1) := by decide +kernel
theorem dL_law_193 : decode cL_law 193 = .ok (.iconst 1, 1) := by decide +kernel
theorem dL_law_194 : decode cL_law 194 = .ok (.iadd, 1) := by decide +kernel
theorem dL_law_195 : decode cL_law 195 = .ok (.iaload, 1) := by decide +kernel
theorem dL_law_196 : decode cL_law 196 = .ok (.aload_n 0, 1) := by decide +kernel
theorem dL_law_197 : decode cL_law 197 = .ok (.iload_n 3, 1) := by decide +kernel
theorem dL_law_198 : decode cL_law 198 = .ok (.iconst 2, 1) := by decide +kernel
theorem dL_law_199 : decode cL_law 199 = .ok (.iadd, 1) := by decide +kernel
theorem dL_law_200 : decode cL_law 200 = .ok (.iaload, 1) := by decide +kernel
theorem dL_law_201 : decode cL_law 201 = .ok (.invokevirtual 27, 3) := by decide +kernel
theorem dL_law_204 : decode cL_law 204 = .ok (.if_icmp .eq 355, 3) := by decide +kernel
theorem dL_law_207 : decode cL_law 207 = .ok (.iconst 0, 1) := by decide +kernel
theorem dL_law_208 : decode cL_law 208 = .ok (.ireturn, 1) := by decide +kernel
theorem dL_law_209 : decode cL_law 209 = .ok (.aload_n 1, 1) := by decide +kernel
theorem dL_law_210 : decode cL_law 210 = .ok (.aload_n 0, 1) := by decide +kernel
theorem dL_law_211 : decode cL_law 211 = .ok (.iload_n 3, 1) := by decide +kernel
theorem dL_law_212 : decode cL_law 212 = .ok (.iconst 1, 1) := by decide +kernel
theorem dL_law_213 : decode cL_law 213 = .ok (.iadd, 1) := by decide +kernel
theorem dL_law_214 : decode cL_law 214 = .ok (.iaload, 1) := by decide +kernel
theorem dL_law_215 : decode cL_law 215 = .ok (.aload_n 0, 1) := by decide +kernel
theorem dL_law_216 : decode cL_law 216 = .ok (.iload_n 3, 1) := by decide +kernel
theorem dL_law_217 : decode cL_law 217 = .ok (.iconst 2, 1) := by decide +kernel
theorem dL_law_218 : decode cL_law 218 = .ok (.iadd, 1) := by decide +kernel
theorem dL_law_219 : decode cL_law 219 = .ok (.iaload, 1) := by decide +kernel
theorem dL_law_220 : decode cL_law 220 = .ok (.aload_n 0, 1) := by decide +kernel
theorem dL_law_221 : decode cL_law 221 = .ok (.iload_n 3, 1) := by decide +kernel
theorem dL_law_222 : decode cL_law 222 = .ok (.iconst 3, 1) := by decide +kernel
theorem dL_law_223 : decode cL_law 223 = .ok (.iadd, 1) := by decide +kernel
theorem dL_law_224 : decode cL_law 224 = .ok (.iaload, 1) := by decide +kernel
theorem dL_law_225 : decode cL_law 225 = .ok (.ifCond .eq 7, 3) := by decide +kernel
theorem dL_law_228 : decode cL_law 228 = .ok (.iconst 1, 1) := by decide +kernel
theorem dL_law_229 : decode cL_law 229 = .ok (.goto 4, 3) := by decide +kernel
theorem dL_law_232 : decode cL_law 232 = .ok (.iconst 0, 1) := by decide +kernel
theorem dL_law_233 : decode cL_law 233 = .ok (.aload_n 0, 1) := by decide +kernel
theorem dL_law_234 : decode cL_law 234 = .ok (.iload_n 3, 1) := by decide +kernel
theorem dL_law_235 : decode cL_law 235 = .ok (.iconst 4, 1) := by decide +kernel
theorem dL_law_236 : decode cL_law 236 = .ok (.iadd, 1) := by decide +kernel
theorem dL_law_237 : decode cL_law 237 = .ok (.iaload, 1) := by decide +kernel
theorem dL_law_238 : decode cL_law 238 = .ok (.aload_n 0, 1) := by decide +kernel
theorem dL_law_239 : decode cL_law 239 = .ok (.iload_n 3, 1) := by decide +kernel
theorem dL_law_240 : decode cL_law 240 = .ok (.iconst 5, 1) := by decide +kernel
theorem dL_law_241 : decode cL_law 241 = .ok (.iadd, 1) := by decide +kernel
theorem dL_law_242 : decode cL_law 242 = .ok (.iaload, 1) := by decide +kernel
theorem dL_law_243 : decode cL_law 243 = .ok (.invokevirtual 28, 3) := by decide +kernel
theorem dL_law_246 : decode cL_law 246 = .ok (.aload_n 2, 1) := by decide +kernel
theorem dL_law_247 : decode cL_law 247 = .ok (.aload_n 0, 1) := by decide +kernel
theorem dL_law_248 : decode cL_law 248 = .ok (.iload_n 3, 1) := by decide +kernel
theorem dL_law_249 : decode cL_law 249 = .ok (.iconst 1, 1) := by decide +kernel
theorem dL_law_250 : decode cL_law 250 = .ok (.iadd, 1) := by decide +kernel
theorem dL_law_251 : decode cL_law 251 = .ok (.iaload, 1) := by decide +kernel
theorem dL_law_252 : decode cL_law 252 = .ok (.aload_n 0, 1) := by decide +kernel
theorem dL_law_253 : decode cL_law 253 = .ok (.iload_n 3, 1) := by decide +kernel
theorem dL_law_254 : decode cL_law 254 = .ok (.iconst 2, 1) := by decide +kernel
theorem dL_law_255 : decode cL_law 255 = .ok (.iadd, 1) := by decide +kernel
theorem dL_law_256 : decode cL_law 256 = .ok (.iaload, 1) := by decide +kernel
theorem dL_law_257 : decode cL_law 257 = .ok (.aload_n 0, 1) := by decide +kernel
theorem dL_law_258 : decode cL_law 258 = .ok (.iload_n 3, 1) := by decide +kernel
theorem dL_law_259 : decode cL_law 259 = .ok (.iconst 3, 1) := by decide +kernel
theorem dL_law_260 : decode cL_law 260 = .ok (.iadd, 1) := by decide +kernel
theorem dL_law_261 : decode cL_law 261 = .ok (.iaload, 1) := by decide +kernel
theorem dL_law_262 : decode cL_law 262 = .ok (.ifCond .eq 7, 3) := by decide +kernel
theorem dL_law_265 : decode cL_law 265 = .ok (.iconst 1, 1) := by decide +kernel
theorem dL_law_266 : decode cL_law 266 = .ok (.goto 4, 3) := by decide +kernel
theorem dL_law_269 : decode cL_law 269 = .ok (.iconst 0, 1) := by decide +kernel
theorem dL_law_270 : decode cL_law 270 = .ok (.aload_n 0, 1) := by decide +kernel
theorem dL_law_271 : decode cL_law 271 = .ok (.iload_n 3, 1) := by decide +kernel
theorem dL_law_272 : decode cL_law 272 = .ok (.iconst 4, 1) := by decide +kernel
theorem dL_law_273 : decode cL_law 273 = .ok (.iadd, 1) := by decide +kernel
theorem dL_law_274 : decode cL_law 274 = .ok (.iaload, 1) := by decide +kernel
theorem dL_law_275 : decode cL_law 275 = .ok (.aload_n 0, 1) := by decide +kernel
theorem dL_law_276 : decode cL_law 276 = .ok (.iload_n 3, 1) := by decide +kernel
theorem dL_law_277 : decode cL_law 277 = .ok (.iconst 5, 1) := by decide +kernel
theorem dL_law_278 : decode cL_law 278 = .ok (.iadd, 1) := by decide +kernel
theorem dL_law_279 : decode cL_law 279 = .ok (.iaload, 1) := by decide +kernel
theorem dL_law_280 : decode cL_law 280 = .ok (.invokevirtual 32, 3) := by decide +kernel
theorem dL_law_283 : decode cL_law 283 = .ok (.if_icmp .eq 276, 3) := by decide +kernel
theorem dL_law_286 : decode cL_law 286 = .ok (.iconst 0, 1) := by decide +kernel
theorem dL_law_287 : decode cL_law 287 = .ok (.ireturn, 1) := by decide +kernel
theorem dL_law_288 : decode cL_law 288 = .ok (.aload_n 1, 1) := by decide +kernel
theorem dL_law_289 : decode cL_law 289 = .ok (.aload_n 0, 1) := by decide +kernel
theorem dL_law_290 : decode cL_law 290 = .ok (.iload_n 3, 1) := by decide +kernel
theorem dL_law_291 : decode cL_law 291 = .ok (.iconst 1, 1) := by decide +kernel
theorem dL_law_292 : decode cL_law 292 = .ok (.iadd, 1) := by decide +kernel
theorem dL_law_293 : decode cL_law 293 = .ok (.iaload, 1) := by decide +kernel
theorem dL_law_294 : decode cL_law 294 = .ok (.invokevirtual 33, 3) := by decide +kernel
theorem dL_law_297 : decode cL_law 297 = .ok (.aload_n 2, 1) := by decide +kernel
theorem dL_law_298 : decode cL_law 298 = .ok (.aload_n 0, 1) := by decide +kernel
theorem dL_law_299 : decode cL_law 299 = .ok (.iload_n 3, 1) := by decide +kernel
theorem dL_law_300 : decode cL_law 300 = .ok (.iconst 1, 1) := by decide +kernel
theorem dL_law_301 : decode cL_law 301 = .ok (.iadd, 1) := by decide +kernel
theorem dL_law_302 : decode cL_law 302 = .ok (.iaload, 1) := by decide +kernel
theorem dL_law_303 : decode cL_law 303 = .ok (.invokevirtual 36, 3) := by decide +kernel
theorem dL_law_306 : decode cL_law 306 = .ok (.if_icmp .eq 253, 3) := by decide +kernel
theorem dL_law_309 : decode cL_law 309 = .ok (.iconst 0, 1) := by decide +kernel
theorem dL_law_310 : decode cL_law 310 = .ok (.ireturn, 1) := by decide +kernel
theorem dL_law_311 : decode cL_law 311 = .ok (.aload_n 1, 1) := by decide +kernel
theorem dL_law_312 : decode cL_law 312 = .ok (.aload_n 0, 1) := by decide +kernel
theorem dL_law_313 : decode cL_law 313 = .ok (.iload_n 3, 1) := by decide +kernel
theorem dL_law_314 : decode cL_law 314 = .ok (.iconst 1, 1) := by decide +kernel
theorem dL_law_315 : decode cL_law 315 = .ok (.iadd, 1) := by decide +kernel
theorem dL_law_316 : decode cL_law 316 = .ok (.iaload, 1) := by decide +kernel
theorem dL_law_317 : decode cL_law 317 = .ok (.aload_n 0, 1) := by decide +kernel
theorem dL_law_318 : decode cL_law 318 = .ok (.iload_n 3, 1) := by decide +kernel
theorem dL_law_319 : decode cL_law 319 = .ok (.iconst 2, 1) := by decide +kernel
theorem dL_law_320 : decode cL_law 320 = .ok (.iadd, 1) := by decide +kernel
theorem dL_law_321 : decode cL_law 321 = .ok (.iaload, 1) := by decide +kernel
theorem dL_law_322 : decode cL_law 322 = .ok (.invokevirtual 37, 3) := by decide +kernel
theorem dL_law_325 : decode cL_law 325 = .ok (.aload_n 2, 1) := by decide +kernel
theorem dL_law_326 : decode cL_law 326 = .ok (.aload_n 0, 1) := by decide +kernel
theorem dL_law_327 : decode cL_law 327 = .ok (.iload_n 3, 1) := by decide +kernel
theorem dL_law_328 : decode cL_law 328 = .ok (.iconst 1, 1) := by decide +kernel
theorem dL_law_329 : decode cL_law 329 = .ok (.iadd, 1) := by decide +kernel
theorem dL_law_330 : decode cL_law 330 = .ok (.iaload, 1) := by decide +kernel
theorem dL_law_331 : decode cL_law 331 = .ok (.aload_n 0, 1) := by decide +kernel
theorem dL_law_332 : decode cL_law 332 = .ok (.iload_n 3, 1) := by decide +kernel
theorem dL_law_333 : decode cL_law 333 = .ok (.iconst 2, 1) := by decide +kernel
theorem dL_law_334 : decode cL_law 334 = .ok (.iadd, 1) := by decide +kernel
theorem dL_law_335 : decode cL_law 335 = .ok (.iaload, 1) := by decide +kernel
theorem dL_law_336 : decode cL_law 336 = .ok (.invokevirtual 40, 3) := by decide +kernel
theorem dL_law_339 : decode cL_law 339 = .ok (.if_icmp .eq 220, 3) := by decide +kernel
theorem dL_law_342 : decode cL_law 342 = .ok (.iconst 0, 1) := by decide +kernel
theorem dL_law_343 : decode cL_law 343 = .ok (.ireturn, 1) := by decide +kernel
theorem dL_law_344 : decode cL_law 344 = .ok (.aload_n 1, 1) := by decide +kernel
theorem dL_law_345 : decode cL_law 345 = .ok (.aload_n 0, 1) := by decide +kernel
theorem dL_law_346 : decode cL_law 346 = .ok (.iload_n 3, 1) := by decide +kernel
theorem dL_law_347 : decode cL_law 347 = .ok (.iconst 1, 1) := by decide +kernel
theorem dL_law_348 : decode cL_law 348 = .ok (.iadd, 1) := by decide +kernel
theorem dL_law_349 : decode cL_law 349 = .ok (.iaload, 1) := by decide +kernel
theorem dL_law_350 : decode cL_law 350 = .ok (.invokevirtual 41, 3) := by decide +kernel
theorem dL_law_353 : decode cL_law 353 = .ok (.aload_n 2, 1) := by decide +kernel
theorem dL_law_354 : decode cL_law 354 = .ok (.aload_n 0, 1) := by decide +kernel
theorem dL_law_355 : decode cL_law 355 = .ok (.iload_n 3, 1) := by decide +kernel
theorem dL_law_356 : decode cL_law 356 = .ok (.iconst 1, 1) := by decide +kernel
theorem dL_law_357 : decode cL_law 357 = .ok (.iadd, 1) := by decide +kernel
theorem dL_law_358 : decode cL_law 358 = .ok (.iaload, 1) := by decide +kernel
theorem dL_law_359 : decode cL_law 359 = .ok (.invokevirtual 44, 3) := by decide +kernel
theorem dL_law_362 : decode cL_law 362 = .ok (.if_icmp .eq 197, 3) := by decide +kernel
theorem dL_law_365 : decode cL_law 365 = .ok (.iconst 0, 1) := by decide +kernel
theorem dL_law_366 : decode cL_law 366 = .ok (.ireturn, 1) := by decide +kernel
theorem dL_law_367 : decode cL_law 367 = .ok (.aload_n 1, 1) := by decide +kernel
theorem dL_law_368 : decode cL_law 368 = .ok (.aload_n 0, 1) := by decide +kernel
theorem dL_law_369 : decode cL_law 369 = .ok (.iload_n 3, 1) := by decide +kernel
theorem dL_law_370 : decode cL_law 370 = .ok (.iconst 1, 1) := by decide +kernel
theorem dL_law_371 : decode cL_law 371 = .ok (.iadd, 1) := by decide +kernel
theorem dL_law_372 : decode cL_law 372 = .ok (.iaload, 1) := by decide +kernel
theorem dL_law_373 : decode cL_law 373 = .ok (.aload_n 0, 1) := by decide +kernel
theorem dL_law_374 : decode cL_law 374 = .ok (.iload_n 3, 1) := by decide +kernel
theorem dL_law_375 : decode cL_law 375 = .ok (.iconst 2, 1) := by decide +kernel
theorem dL_law_376 : decode cL_law 376 = .ok (.iadd, 1) := by decide +kernel
theorem dL_law_377 : decode cL_law 377 = .ok (.iaload, 1) := by decide +kernel
theorem dL_law_378 : decode cL_law 378 = .ok (.invokevirtual 45, 3) := by decide +kernel
theorem dL_law_381 : decode cL_law 381 = .ok (.aload_n 2, 1) := by decide +kernel
theorem dL_law_382 : decode cL_law 382 = .ok (.aload_n 0, 1) := by decide +kernel
theorem dL_law_383 : decode cL_law 383 = .ok (.iload_n 3, 1) := by decide +kernel
theorem dL_law_384 : decode cL_law 384 = .ok (.iconst 1, 1) := by decide +kernel
theorem dL_law_385 : decode cL_law 385 = .ok (.iadd, 1) := by decide +kernel
theorem dL_law_386 : decode cL_law 386 = .ok (.iaload, 1) := by decide +kernel
theorem dL_law_387 : decode cL_law 387 = .ok (.aload_n 0, 1) := by decide +kernel
theorem dL_law_388 : decode cL_law 388 = .ok (.iload_n 3, 1) := by decide +kernel
theorem dL_law_389 : decode cL_law 389 = .ok (.iconst 2, 1) := by decide +kernel
theorem dL_law_390 : decode cL_law 390 = .ok (.iadd, 1) := by decide +kernel
theorem dL_law_391 : decode cL_law 391 = .ok (.iaload, 1) := by decide +kernel

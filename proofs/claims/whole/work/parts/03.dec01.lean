theorem dX1_waits_74 : decode cX1_waits 74 = .ok (.getfield 109, 3) := by decide +kernel
theorem dX1_waits_77 : decode cX1_waits 77 = .ok (.ireturn, 1) := by decide +kernel
theorem dX1_waits_78 : decode cX1_waits 78 = .ok (.aload_n 3, 1) := by decide +kernel
theorem dX1_waits_79 : decode cX1_waits 79 = .ok (.getfield 112, 3) := by decide +kernel
theorem dX1_waits_82 : decode cX1_waits 82 = .ok (.ireturn, 1) := by decide +kernel
theorem dX1_waits_83 : decode cX1_waits 83 = .ok (.aload_n 3, 1) := by decide +kernel
theorem dX1_waits_84 : decode cX1_waits 84 = .ok (.getfield 115, 3) := by decide +kernel
theorem dX1_waits_87 : decode cX1_waits 87 = .ok (.ireturn, 1) := by decide +kernel
theorem dX1_waits_88 : decode cX1_waits 88 = .ok (.aload_n 3, 1) := by decide +kernel
theorem dX1_waits_89 : decode cX1_waits 89 = .ok (.getfield 118, 3) := by decide +kernel
theorem dX1_waits_92 : decode cX1_waits 92 = .ok (.ireturn, 1) := by decide +kernel
theorem dX1_waits_93 : decode cX1_waits 93 = .ok (.aload_n 0, 1) := by decide +kernel
theorem dX1_waits_94 : decode cX1_waits 94 = .ok (.getfield 25, 3) := by decide +kernel
theorem dX1_waits_97 : decode cX1_waits 97 = .ok (.iconst 0, 1) := by decide +kernel
theorem dX1_waits_98 : decode cX1_waits 98 = .ok (.iaload, 1) := by decide +kernel
theorem dX1_waits_99 : decode cX1_waits 99 = .ok (.aload_n 3, 1) := by decide +kernel
theorem dX1_waits_100 : decode cX1_waits 100 = .ok (.getfield 121, 3) := by decide +kernel
theorem dX1_waits_103 : decode cX1_waits 103 = .ok (.isub, 1) := by decide +kernel
theorem dX1_waits_104 : decode cX1_waits 104 = .ok (.ireturn, 1) := by decide +kernel
theorem dX1_remembered_0 : decode cX1_remembered 0 = .ok (.iload_n 1, 1) := by decide +kernel
theorem dX1_remembered_1 : decode cX1_remembered 1 = .ok (.bipush 100, 2) := by decide +kernel
theorem dX1_remembered_3 : decode cX1_remembered 3 = .ok (.invokestatic 52, 3) := by decide +kernel
theorem dX1_remembered_6 : decode cX1_remembered 6 = .ok (.ifCond .ne 5, 3) := by decide +kernel
theorem dX1_remembered_9 : decode cX1_remembered 9 = .ok (.iconst (-1), 1) := by decide +kernel
theorem dX1_remembered_10 : decode cX1_remembered 10 = .ok (.ireturn, 1) := by decide +kernel
theorem dX1_remembered_11 : decode cX1_remembered 11 = .ok (.aload_n 0, 1) := by decide +kernel
theorem dX1_remembered_12 : decode cX1_remembered 12 = .ok (.iload_n 1, 1) := by decide +kernel
theorem dX1_remembered_13 : decode cX1_remembered 13 = .ok (.invokevirtual 88, 3) := by decide +kernel
theorem dX1_remembered_16 : decode cX1_remembered 16 = .ok (.astore_n 2, 1) := by decide +kernel
theorem dX1_remembered_17 : decode cX1_remembered 17 = .ok (.aload_n 2, 1) := by decide +kernel
theorem dX1_remembered_18 : decode cX1_remembered 18 = .ok (.ifnonnull 6, 3) := by decide +kernel
theorem dX1_remembered_21 : decode cX1_remembered 21 = .ok (.bipush (-9), 2) := by decide +kernel
theorem dX1_remembered_23 : decode cX1_remembered 23 = .ok (.ireturn, 1) := by decide +kernel
theorem dX1_remembered_24 : decode cX1_remembered 24 = .ok (.aload_n 2, 1) := by decide +kernel
theorem dX1_remembered_25 : decode cX1_remembered 25 = .ok (.getfield 124, 3) := by decide +kernel
theorem dX1_remembered_28 : decode cX1_remembered 28 = .ok (.ifCond .eq 7, 3) := by decide +kernel
theorem dX1_remembered_31 : decode cX1_remembered 31 = .ok (.iconst 1, 1) := by decide +kernel
theorem dX1_remembered_32 : decode cX1_remembered 32 = .ok (.goto 4, 3) := by decide +kernel
theorem dX1_remembered_35 : decode cX1_remembered 35 = .ok (.iconst 0, 1) := by decide +kernel
theorem dX1_remembered_36 : decode cX1_remembered 36 = .ok (.ireturn, 1) := by decide +kernel
theorem dX1_kept_0 : decode cX1_kept 0 = .ok (.aload_n 0, 1) := by decide +kernel
theorem dX1_kept_1 : decode cX1_kept 1 = .ok (.iload_n 1, 1) := by decide +kernel
theorem dX1_kept_2 : decode cX1_kept 2 = .ok (.invokevirtual 128, 3) := by decide +kernel
theorem dX1_kept_5 : decode cX1_kept 5 = .ok (.astore_n 3, 1) := by decide +kernel
theorem dX1_kept_6 : decode cX1_kept 6 = .ok (.aload_n 3, 1) := by decide +kernel
theorem dX1_kept_7 : decode cX1_kept 7 = .ok (.ifnull 12, 3) := by decide +kernel
theorem dX1_kept_10 : decode cX1_kept 10 = .ok (.iload_n 2, 1) := by decide +kernel
theorem dX1_kept_11 : decode cX1_kept 11 = .ok (.bipush 7, 2) := by decide +kernel
theorem dX1_kept_13 : decode cX1_kept 13 = .ok (.invokestatic 52, 3) := by decide +kernel
theorem dX1_kept_16 : decode cX1_kept 16 = .ok (.ifCond .ne 5, 3) := by decide +kernel
theorem dX1_kept_19 : decode cX1_kept 19 = .ok (.iconst (-1), 1) := by decide +kernel
theorem dX1_kept_20 : decode cX1_kept 20 = .ok (.ireturn, 1) := by decide +kernel
theorem dX1_kept_21 : decode cX1_kept 21 = .ok (.iload_n 2, 1) := by decide +kernel
theorem dX1_kept_22 : decode cX1_kept 22 = .ok (.tableswitch 76 0 5 #[38, 43, 48, 53, 58, 63], 38) := by decide +kernel
theorem dX1_kept_60 : decode cX1_kept 60 = .ok (.aload_n 3, 1) := by decide +kernel
theorem dX1_kept_61 : decode cX1_kept 61 = .ok (.getfield 131, 3) := by decide +kernel
theorem dX1_kept_64 : decode cX1_kept 64 = .ok (.ireturn, 1) := by decide +kernel
theorem dX1_kept_65 : decode cX1_kept 65 = .ok (.aload_n 3, 1) := by decide +kernel
theorem dX1_kept_66 : decode cX1_kept 66 = .ok (.getfield 109, 3) := by decide +kernel
theorem dX1_kept_69 : decode cX1_kept 69 = .ok (.ireturn, 1) := by decide +kernel
theorem dX1_kept_70 : decode cX1_kept 70 = .ok (.aload_n 3, 1) := by decide +kernel
theorem dX1_kept_71 : decode cX1_kept 71 = .ok (.getfield 112, 3) := by decide +kernel
theorem dX1_kept_74 : decode cX1_kept 74 = .ok (.ireturn, 1) := by decide +kernel
theorem dX1_kept_75 : decode cX1_kept 75 = .ok (.aload_n 3, 1) := by decide +kernel
theorem dX1_kept_76 : decode cX1_kept 76 = .ok (.getfield 115, 3) := by decide +kernel
theorem dX1_kept_79 : decode cX1_kept 79 = .ok (.ireturn, 1) := by decide +kernel
theorem dX1_kept_80 : decode cX1_kept 80 = .ok (.aload_n 3, 1) := by decide +kernel
theorem dX1_kept_81 : decode cX1_kept 81 = .ok (.getfield 134, 3) := by decide +kernel
theorem dX1_kept_84 : decode cX1_kept 84 = .ok (.ireturn, 1) := by decide +kernel
theorem dX1_kept_85 : decode cX1_kept 85 = .ok (.aload_n 3, 1) := by decide +kernel
theorem dX1_kept_86 : decode cX1_kept 86 = .ok (.getfield 137, 3) := by decide +kernel
theorem dX1_kept_89 : decode cX1_kept 89 = .ok (.ifCond .eq 7, 3) := by decide +kernel
theorem dX1_kept_92 : decode cX1_kept 92 = .ok (.iconst 1, 1) := by decide +kernel
theorem dX1_kept_93 : decode cX1_kept 93 = .ok (.goto 4, 3) := by decide +kernel
theorem dX1_kept_96 : decode cX1_kept 96 = .ok (.iconst 0, 1) := by decide +kernel
theorem dX1_kept_97 : decode cX1_kept 97 = .ok (.ireturn, 1) := by decide +kernel
theorem dX1_kept_98 : decode cX1_kept 98 = .ok (.aload_n 3, 1) := by decide +kernel
theorem dX1_kept_99 : decode cX1_kept 99 = .ok (.getfield 140, 3) := by decide +kernel
theorem dX1_kept_102 : decode cX1_kept 102 = .ok (.ireturn, 1) := by decide +kernel
theorem dX1_take_0 : decode cX1_take 0 = .ok (.aload_n 0, 1) := by decide +kernel
theorem dX1_take_1 : decode cX1_take 1 = .ok (.iload_n 1, 1) := by decide +kernel
theorem dX1_take_2 : decode cX1_take 2 = .ok (.invokevirtual 128, 3) := by decide +kernel
theorem dX1_take_5 : decode cX1_take 5 = .ok (.astore_n 2, 1) := by decide +kernel
theorem dX1_take_6 : decode cX1_take 6 = .ok (.aload_n 2, 1) := by decide +kernel
theorem dX1_take_7 : decode cX1_take 7 = .ok (.ifnonnull 5, 3) := by decide +kernel
theorem dX1_take_10 : decode cX1_take 10 = .ok (.iconst (-1), 1) := by decide +kernel
theorem dX1_take_11 : decode cX1_take 11 = .ok (.ireturn, 1) := by decide +kernel
theorem dX1_take_12 : decode cX1_take 12 = .ok (.aload_n 0, 1) := by decide +kernel
theorem dX1_take_13 : decode cX1_take 13 = .ok (.iload_n 1, 1) := by decide +kernel
theorem dX1_take_14 : decode cX1_take 14 = .ok (.invokevirtual 143, 3) := by decide +kernel
theorem dX1_take_17 : decode cX1_take 17 = .ok (.aload_n 2, 1) := by decide +kernel
theorem dX1_take_18 : decode cX1_take 18 = .ok (.iconst 0, 1) := by decide +kernel
theorem dX1_take_19 : decode cX1_take 19 = .ok (.putfield 124, 3) := by decide +kernel
theorem dX1_take_22 : decode cX1_take 22 = .ok (.aload_n 2, 1) := by decide +kernel
theorem dX1_take_23 : decode cX1_take 23 = .ok (.iconst 1, 1) := by decide +kernel
theorem dX1_take_24 : decode cX1_take 24 = .ok (.putfield 146, 3) := by decide +kernel
theorem dX1_take_27 : decode cX1_take 27 = .ok (.aload_n 0, 1) := by decide +kernel
theorem dX1_take_28 : decode cX1_take 28 = .ok (.getfield 30, 3) := by decide +kernel
theorem dX1_take_31 : decode cX1_take 31 = .ok (.aload_n 2, 1) := by decide +kernel
theorem dX1_take_32 : decode cX1_take 32 = .ok (.getfield 112, 3) := by decide +kernel
theorem dX1_take_35 : decode cX1_take 35 = .ok (.aaload, 1) := by decide +kernel
theorem dX1_take_36 : decode cX1_take 36 = .ok (.iconst 1, 1) := by decide +kernel
theorem dX1_take_37 : decode cX1_take 37 = .ok (.dup2, 1) := by decide +kernel
theorem dX1_take_38 : decode cX1_take 38 = .ok (.iaload, 1) := by decide +kernel
theorem dX1_take_39 : decode cX1_take 39 = .ok (.aload_n 2, 1) := by decide +kernel
theorem dX1_take_40 : decode cX1_take 40 = .ok (.getfield 134, 3) := by decide +kernel
theorem dX1_take_43 : decode cX1_take 43 = .ok (.isub, 1) := by decide +kernel
theorem dX1_take_44 : decode cX1_take 44 = .ok (.iastore, 1) := by decide +kernel
theorem dX1_take_45 : decode cX1_take 45 = .ok (.aload_n 0, 1) := by decide +kernel
theorem dX1_take_46 : decode cX1_take 46 = .ok (.getfield 30, 3) := by decide +kernel
theorem dX1_take_49 : decode cX1_take 49 = .ok (.aload_n 2, 1) := by decide +kernel
theorem dX1_take_50 : decode cX1_take 50 = .ok (.getfield 112, 3) := by decide +kernel
theorem dX1_take_53 : decode cX1_take 53 = .ok (.aaload, 1) := by decide +kernel
theorem dX1_take_54 : decode cX1_take 54 = .ok (.iconst 2, 1) := by decide +kernel
theorem dX1_take_55 : decode cX1_take 55 = .ok (.dup2, 1) := by decide +kernel
theorem dX1_take_56 : decode cX1_take 56 = .ok (.iaload, 1) := by decide +kernel
theorem dX1_take_57 : decode cX1_take 57 = .ok (.aload_n 2, 1) := by decide +kernel
theorem dX1_take_58 : decode cX1_take 58 = .ok (.getfield 134, 3) := by decide +kernel
theorem dX1_take_61 : decode cX1_take 61 = .ok (.iadd, 1) := by decide +kernel
theorem dX1_take_62 : decode cX1_take 62 = .ok (.iastore, 1) := by decide +kernel
theorem dX1_take_63 : decode cX1_take 63 = .ok (.aload_n 2, 1) := by decide +kernel
theorem dX1_take_64 : decode cX1_take 64 = .ok (.getfield 131, 3) := by decide +kernel
theorem dX1_take_67 : decode cX1_take 67 = .ok (.ireturn, 1) := by decide +kernel
theorem dX1_shape_0 : decode cX1_shape 0 = .ok (.iload_n 1, 1) := by decide +kernel
theorem dX1_shape_1 : decode cX1_shape 1 = .ok (.iconst 5, 1) := by decide +kernel
theorem dX1_shape_2 : decode cX1_shape 2 = .ok (.invokestatic 52, 3) := by decide +kernel
theorem dX1_shape_5 : decode cX1_shape 5 = .ok (.ifCond .eq 23, 3) := by decide +kernel
theorem dX1_shape_8 : decode cX1_shape 8 = .ok (.iload_n 2, 1) := by decide +kernel
theorem dX1_shape_9 : decode cX1_shape 9 = .ok (.bipush 7, 2) := by decide +kernel
theorem dX1_shape_11 : decode cX1_shape 11 = .ok (.invokestatic 52, 3) := by decide +kernel
theorem dX1_shape_14 : decode cX1_shape 14 = .ok (.ifCond .eq 14, 3) := by decide +kernel
theorem dX1_shape_17 : decode cX1_shape 17 = .ok (.aload_n 0, 1) := by decide +kernel
theorem dX1_shape_18 : decode cX1_shape 18 = .ok (.getfield 30, 3) := by decide +kernel
theorem dX1_shape_21 : decode cX1_shape 21 = .ok (.iload_n 1, 1) := by decide +kernel
theorem dX1_shape_22 : decode cX1_shape 22 = .ok (.aaload, 1) := by decide +kernel
theorem dX1_shape_23 : decode cX1_shape 23 = .ok (.iload_n 2, 1) := by decide +kernel
theorem dX1_shape_24 : decode cX1_shape 24 = .ok (.iaload, 1) := by decide +kernel
theorem dX1_shape_25 : decode cX1_shape 25 = .ok (.goto 4, 3) := by decide +kernel
theorem dX1_shape_28 : decode cX1_shape 28 = .ok (.iconst (-1), 1) := by decide +kernel
theorem dX1_shape_29 : decode cX1_shape 29 = .ok (.ireturn, 1) := by decide +kernel
theorem dX1_step_0 : decode cX1_step 0 = .ok (.iload_n 1, 1) := by decide +kernel
theorem dX1_step_1 : decode cX1_step 1 = .ok (.bipush 14, 2) := by decide +kernel
theorem dX1_step_3 : decode cX1_step 3 = .ok (.invokestatic 52, 3) := by decide +kernel
theorem dX1_step_6 : decode cX1_step 6 = .ok (.ifCond .eq 12, 3) := by decide +kernel
theorem dX1_step_9 : decode cX1_step 9 = .ok (.aload_n 0, 1) := by decide +kernel
theorem dX1_step_10 : decode cX1_step 10 = .ok (.getfield 33, 3) := by decide +kernel
theorem dX1_step_13 : decode cX1_step 13 = .ok (.iload_n 1, 1) := by decide +kernel
theorem dX1_step_14 : decode cX1_step 14 = .ok (.iaload, 1) := by decide +kernel
theorem dX1_step_15 : decode cX1_step 15 = .ok (.goto 4, 3) := by decide +kernel
theorem dX1_step_18 : decode cX1_step 18 = .ok (.iconst (-1), 1) := by decide +kernel
theorem dX1_step_19 : decode cX1_step 19 = .ok (.ireturn, 1) := by decide +kernel
theorem dX1_bound_0 : decode cX1_bound 0 = .ok (.iload_n 2, 1) := by decide +kernel
theorem dX1_bound_1 : decode cX1_bound 1 = .ok (.iconst 1, 1) := by decide +kernel
theorem dX1_bound_2 : decode cX1_bound 2 = .ok (.sipush 1000, 3) := by decide +kernel
theorem dX1_bound_5 : decode cX1_bound 5 = .ok (.invokestatic 73, 3) := by decide +kernel
theorem dX1_bound_8 : decode cX1_bound 8 = .ok (.ifCond .eq 20, 3) := by decide +kernel
theorem dX1_bound_11 : decode cX1_bound 11 = .ok (.iload_n 1, 1) := by decide +kernel
theorem dX1_bound_12 : decode cX1_bound 12 = .ok (.iconst 0, 1) := by decide +kernel
theorem dX1_bound_13 : decode cX1_bound 13 = .ok (.iload_n 2, 1) := by decide +kernel
theorem dX1_bound_14 : decode cX1_bound 14 = .ok (.invokestatic 73, 3) := by decide +kernel
theorem dX1_bound_17 : decode cX1_bound 17 = .ok (.ifCond .eq 11, 3) := by decide +kernel
theorem dX1_bound_20 : decode cX1_bound 20 = .ok (.iload_n 3, 1) := by decide +kernel
theorem dX1_bound_21 : decode cX1_bound 21 = .ok (.iconst 2, 1) := by decide +kernel
theorem dX1_bound_22 : decode cX1_bound 22 = .ok (.invokestatic 52, 3) := by decide +kernel
theorem dX1_bound_25 : decode cX1_bound 25 = .ok (.ifCond .ne 5, 3) := by decide +kernel
theorem dX1_bound_28 : decode cX1_bound 28 = .ok (.iconst (-1), 1) := by decide +kernel
theorem dX1_bound_29 : decode cX1_bound 29 = .ok (.ireturn, 1) := by decide +kernel
theorem dX1_bound_30 : decode cX1_bound 30 = .ok (.aload_n 0, 1) := by decide +kernel
theorem dX1_bound_31 : decode cX1_bound 31 = .ok (.getfield 25, 3) := by decide +kernel
theorem dX1_bound_34 : decode cX1_bound 34 = .ok (.bipush 10, 2) := by decide +kernel
theorem dX1_bound_36 : decode cX1_bound 36 = .ok (.iaload, 1) := by decide +kernel
theorem dX1_bound_37 : decode cX1_bound 37 = .ok (.ifCond .ne 6, 3) := by decide +kernel
theorem dX1_bound_40 : decode cX1_bound 40 = .ok (.bipush (-9), 2) := by decide +kernel
theorem dX1_bound_42 : decode cX1_bound 42 = .ok (.ireturn, 1) := by decide +kernel
theorem dX1_bound_43 : decode cX1_bound 43 = .ok (.aload_n 0, 1) := by decide +kernel
theorem dX1_bound_44 : decode cX1_bound 44 = .ok (.iload_n 1, 1) := by decide +kernel
theorem dX1_bound_45 : decode cX1_bound 45 = .ok (.iload_n 2, 1) := by decide +kernel
theorem dX1_bound_46 : decode cX1_bound 46 = .ok (.invokevirtual 149, 3) := by decide +kernel
theorem dX1_bound_49 : decode cX1_bound 49 = .ok (.istore 4, 2) := by decide +kernel
theorem dX1_bound_51 : decode cX1_bound 51 = .ok (.iload_n 3, 1) := by decide +kernel
theorem dX1_bound_52 : decode cX1_bound 52 = .ok (.iconst 1, 1) := by decide +kernel
theorem dX1_bound_53 : decode cX1_bound 53 = .ok (.if_icmp .ne 8, 3) := by decide +kernel
theorem dX1_bound_56 : decode cX1_bound 56 = .ok (.iconst 1, 1) := by decide +kernel
theorem dX1_bound_57 : decode cX1_bound 57 = .ok (.iload 4, 2) := by decide +kernel
theorem dX1_bound_59 : decode cX1_bound 59 = .ok (.ishl, 1) := by decide +kernel
theorem dX1_bound_60 : decode cX1_bound 60 = .ok (.ireturn, 1) := by decide +kernel
theorem dX1_bound_61 : decode cX1_bound 61 = .ok (.iload 4, 2) := by decide +kernel
theorem dX1_bound_63 : decode cX1_bound 63 = .ok (.ifCond .ne 7, 3) := by decide +kernel
theorem dX1_bound_66 : decode cX1_bound 66 = .ok (.iconst 0, 1) := by decide +kernel
theorem dX1_bound_67 : decode cX1_bound 67 = .ok (.goto 9, 3) := by decide +kernel
theorem dX1_bound_70 : decode cX1_bound 70 = .ok (.iconst 1, 1) := by decide +kernel
theorem dX1_bound_71 : decode cX1_bound 71 = .ok (.iload 4, 2) := by decide +kernel
theorem dX1_bound_73 : decode cX1_bound 73 = .ok (.iconst 1, 1) := by decide +kernel
theorem dX1_bound_74 : decode cX1_bound 74 = .ok (.isub, 1) := by decide +kernel
theorem dX1_bound_75 : decode cX1_bound 75 = .ok (.ishl, 1) := by decide +kernel
theorem dX1_bound_76 : decode cX1_bound 76 = .ok (.ireturn, 1) := by decide +kernel
theorem dX1_count_0 : decode cX1_count 0 = .ok (.iload_n 1, 1) := by decide +kernel
theorem dX1_count_1 : decode cX1_count 1 = .ok (.bipush 13, 2) := by decide +kernel
theorem dX1_count_3 : decode cX1_count 3 = .ok (.invokestatic 52, 3) := by decide +kernel
theorem dX1_count_6 : decode cX1_count 6 = .ok (.ifCond .eq 12, 3) := by decide +kernel
theorem dX1_count_9 : decode cX1_count 9 = .ok (.aload_n 0, 1) := by decide +kernel
theorem dX1_count_10 : decode cX1_count 10 = .ok (.getfield 25, 3) := by decide +kernel
theorem dX1_count_13 : decode cX1_count 13 = .ok (.iload_n 1, 1) := by decide +kernel
theorem dX1_count_14 : decode cX1_count 14 = .ok (.iaload, 1) := by decide +kernel
theorem dX1_count_15 : decode cX1_count 15 = .ok (.goto 4, 3) := by decide +kernel
theorem dX1_count_18 : decode cX1_count 18 = .ok (.iconst (-1), 1) := by decide +kernel
theorem dX1_count_19 : decode cX1_count 19 = .ok (.ireturn, 1) := by decide +kernel
theorem dX1_trace_0 : decode cX1_trace 0 = .ok (.aload_n 0, 1) := by decide +kernel
theorem dX1_trace_1 : decode cX1_trace 1 = .ok (.getfield 48, 3) := by decide +kernel
theorem dX1_trace_4 : decode cX1_trace 4 = .ok (.lreturn, 1) := by decide +kernel
theorem dX1_isBelow_0 : decode cX1_isBelow 0 = .ok (.iload_n 0, 1) := by decide +kernel
theorem dX1_isBelow_1 : decode cX1_isBelow 1 = .ok (.ifCond .lt 12, 3) := by decide +kernel
theorem dX1_isBelow_4 : decode cX1_isBelow 4 = .ok (.iload_n 0, 1) := by decide +kernel
theorem dX1_isBelow_5 : decode cX1_isBelow 5 = .ok (.iload_n 1, 1) := by decide +kernel
theorem dX1_isBelow_6 : decode cX1_isBelow 6 = .ok (.if_icmp .ge 7, 3) := by decide +kernel
theorem dX1_isBelow_9 : decode cX1_isBelow 9 = .ok (.iconst 1, 1) := by decide +kernel
theorem dX1_isBelow_10 : decode cX1_isBelow 10 = .ok (.goto 4, 3) := by decide +kernel
theorem dX1_isBelow_13 : decode cX1_isBelow 13 = .ok (.iconst 0, 1) := by decide +kernel
theorem dX1_isBelow_14 : decode cX1_isBelow 14 = .ok (.ireturn, 1) := by decide +kernel
theorem dX1_isWithin_0 : decode cX1_isWithin 0 = .ok (.iload_n 0, 1) := by decide +kernel
theorem dX1_isWithin_1 : decode cX1_isWithin 1 = .ok (.iload_n 1, 1) := by decide +kernel
theorem dX1_isWithin_2 : decode cX1_isWithin 2 = .ok (.if_icmp .lt 12, 3) := by decide +kernel
theorem dX1_isWithin_5 : decode cX1_isWithin 5 = .ok (.iload_n 0, 1) := by decide +kernel
theorem dX1_isWithin_6 : decode cX1_isWithin 6 = .ok (.iload_n 2, 1) := by decide +kernel
theorem dX1_isWithin_7 : decode cX1_isWithin 7 = .ok (.if_icmp .gt 7, 3) := by decide +kernel
theorem dX1_isWithin_10 : decode cX1_isWithin 10 = .ok (.iconst 1, 1) := by decide +kernel
theorem dX1_isWithin_11 : decode cX1_isWithin 11 = .ok (.goto 4, 3) := by decide +kernel
theorem dX1_isWithin_14 : decode cX1_isWithin 14 = .ok (.iconst 0, 1) := by decide +kernel
theorem dX1_isWithin_15 : decode cX1_isWithin 15 = .ok (.ireturn, 1) := by decide +kernel
theorem dX1_counted_0 : decode cX1_counted 0 = .ok (.aload_n 0, 1) := by decide +kernel
theorem dX1_counted_1 : decode cX1_counted 1 = .ok (.getfield 25, 3) := by decide +kernel
theorem dX1_counted_4 : decode cX1_counted 4 = .ok (.iload_n 1, 1) := by decide +kernel
theorem dX1_counted_5 : decode cX1_counted 5 = .ok (.dup2, 1) := by decide +kernel
theorem dX1_counted_6 : decode cX1_counted 6 = .ok (.iaload, 1) := by decide +kernel
theorem dX1_counted_7 : decode cX1_counted 7 = .ok (.iconst 1, 1) := by decide +kernel
theorem dX1_counted_8 : decode cX1_counted 8 = .ok (.iadd, 1) := by decide +kernel
theorem dX1_counted_9 : decode cX1_counted 9 = .ok (.iastore, 1) := by decide +kernel
theorem dX1_counted_10 : decode cX1_counted 10 = .ok (.iload_n 2, 1) := by decide +kernel
theorem dX1_counted_11 : decode cX1_counted 11 = .ok (.ireturn, 1) := by decide +kernel
theorem dX1_homeOf_0 : decode cX1_homeOf 0 = .ok (.bipush (-9), 2) := by decide +kernel
theorem dX1_homeOf_2 : decode cX1_homeOf 2 = .ok (.istore_n 2, 1) := by decide +kernel
theorem dX1_homeOf_3 : decode cX1_homeOf 3 = .ok (.iconst (-1), 1) := by decide +kernel
theorem dX1_homeOf_4 : decode cX1_homeOf 4 = .ok (.istore_n 3, 1) := by decide +kernel
theorem dX1_homeOf_5 : decode cX1_homeOf 5 = .ok (.iconst 0, 1) := by decide +kernel
theorem dX1_homeOf_6 : decode cX1_homeOf 6 = .ok (.istore 4, 2) := by decide +kernel
theorem dX1_homeOf_8 : decode cX1_homeOf 8 = .ok (.iload 4, 2) := by decide +kernel
theorem dX1_homeOf_10 : decode cX1_homeOf 10 = .ok (.iconst 4, 1) := by decide +kernel
theorem dX1_homeOf_11 : decode cX1_homeOf 11 = .ok (.if_icmp .ge 45, 3) := by decide +kernel
theorem dX1_homeOf_14 : decode cX1_homeOf 14 = .ok (.bipush 7, 2) := by decide +kernel
theorem dX1_homeOf_16 : decode cX1_homeOf 16 = .ok (.iload_n 1, 1) := by decide +kernel
theorem dX1_homeOf_17 : decode cX1_homeOf 17 = .ok (.imul, 1) := by decide +kernel
theorem dX1_homeOf_18 : decode cX1_homeOf 18 = .ok (.iconst 5, 1) := by decide +kernel
theorem dX1_homeOf_19 : decode cX1_homeOf 19 = .ok (.iload 4, 2) := by decide +kernel
theorem dX1_homeOf_21 : decode cX1_homeOf 21 = .ok (.imul, 1) := by decide +kernel
theorem dX1_homeOf_22 : decode cX1_homeOf 22 = .ok (.iadd, 1) := by decide +kernel
theorem dX1_homeOf_23 : decode cX1_homeOf 23 = .ok (.bipush 11, 2) := by decide +kernel
theorem dX1_homeOf_25 : decode cX1_homeOf 25 = .ok (.irem, 1) := by decide +kernel
theorem dX1_homeOf_26 : decode cX1_homeOf 26 = .ok (.istore 5, 2) := by decide +kernel
theorem dX1_homeOf_28 : decode cX1_homeOf 28 = .ok (.aload_n 0, 1) := by decide +kernel
theorem dX1_homeOf_29 : decode cX1_homeOf 29 = .ok (.getfield 9, 3) := by decide +kernel
theorem dX1_homeOf_32 : decode cX1_homeOf 32 = .ok (.iload 4, 2) := by decide +kernel
theorem dX1_homeOf_34 : decode cX1_homeOf 34 = .ok (.baload, 1) := by decide +kernel
theorem dX1_homeOf_35 : decode cX1_homeOf 35 = .ok (.ifCond .eq 15, 3) := by decide +kernel
theorem dX1_homeOf_38 : decode cX1_homeOf 38 = .ok (.iload 5, 2) := by decide +kernel
theorem dX1_homeOf_40 : decode cX1_homeOf 40 = .ok (.iload_n 3, 1) := by decide +kernel
theorem dX1_homeOf_41 : decode cX1_homeOf 41 = .ok (.if_icmp .le 9, 3) := by decide +kernel
theorem dX1_homeOf_44 : decode cX1_homeOf 44 = .ok (.iload 4, 2) := by decide +kernel
theorem dX1_homeOf_46 : decode cX1_homeOf 46 = .ok (.istore_n 2, 1) := by decide +kernel
theorem dX1_homeOf_47 : decode cX1_homeOf 47 = .ok (.iload 5, 2) := by decide +kernel
theorem dX1_homeOf_49 : decode cX1_homeOf 49 = .ok (.istore_n 3, 1) := by decide +kernel
theorem dX1_homeOf_50 : decode cX1_homeOf 50 = .ok (.iinc 4 1, 3) := by decide +kernel
theorem dX1_homeOf_53 : decode cX1_homeOf 53 = .ok (.goto (-45), 3) := by decide +kernel
theorem dX1_homeOf_56 : decode cX1_homeOf 56 = .ok (.iload_n 2, 1) := by decide +kernel
theorem dX1_homeOf_57 : decode cX1_homeOf 57 = .ok (.ireturn, 1) := by decide +kernel
theorem dX1_loseCallsAt_0 : decode cX1_loseCallsAt 0 = .ok (.iconst 0, 1) := by decide +kernel
theorem dX1_loseCallsAt_1 : decode cX1_loseCallsAt 1 = .ok (.istore_n 2, 1) := by decide +kernel
theorem dX1_loseCallsAt_2 : decode cX1_loseCallsAt 2 = .ok (.iload_n 2, 1) := by decide +kernel
theorem dX1_loseCallsAt_3 : decode cX1_loseCallsAt 3 = .ok (.bipush 100, 2) := by decide +kernel
theorem dX1_loseCallsAt_5 : decode cX1_loseCallsAt 5 = .ok (.if_icmp .ge 43, 3) := by decide +kernel
theorem dX1_loseCallsAt_8 : decode cX1_loseCallsAt 8 = .ok (.aload_n 0, 1) := by decide +kernel
theorem dX1_loseCallsAt_9 : decode cX1_loseCallsAt 9 = .ok (.getfield 38, 3) := by decide +kernel
theorem dX1_loseCallsAt_12 : decode cX1_loseCallsAt 12 = .ok (.iload_n 2, 1) := by decide +kernel
theorem dX1_loseCallsAt_13 : decode cX1_loseCallsAt 13 = .ok (.aaload, 1) := by decide +kernel
theorem dX1_loseCallsAt_14 : decode cX1_loseCallsAt 14 = .ok (.astore_n 3, 1) := by decide +kernel
theorem dX1_loseCallsAt_15 : decode cX1_loseCallsAt 15 = .ok (.aload_n 3, 1) := by decide +kernel
theorem dX1_loseCallsAt_16 : decode cX1_loseCallsAt 16 = .ok (.ifnull 26, 3) := by decide +kernel
theorem dX1_loseCallsAt_19 : decode cX1_loseCallsAt 19 = .ok (.aload_n 3, 1) := by decide +kernel
theorem dX1_loseCallsAt_20 : decode cX1_loseCallsAt 20 = .ok (.getfield 105, 3) := by decide +kernel
theorem dX1_loseCallsAt_23 : decode cX1_loseCallsAt 23 = .ok (.iload_n 1, 1) := by decide +kernel
theorem dX1_loseCallsAt_24 : decode cX1_loseCallsAt 24 = .ok (.if_icmp .ne 18, 3) := by decide +kernel
theorem dX1_loseCallsAt_27 : decode cX1_loseCallsAt 27 = .ok (.aload_n 0, 1) := by decide +kernel
theorem dX1_loseCallsAt_28 : decode cX1_loseCallsAt 28 = .ok (.aload_n 3, 1) := by decide +kernel
theorem dX1_loseCallsAt_29 : decode cX1_loseCallsAt 29 = .ok (.invokevirtual 152, 3) := by decide +kernel
theorem dX1_loseCallsAt_32 : decode cX1_loseCallsAt 32 = .ok (.aload_n 0, 1) := by decide +kernel
theorem dX1_loseCallsAt_33 : decode cX1_loseCallsAt 33 = .ok (.getfield 25, 3) := by decide +kernel
theorem dX1_loseCallsAt_36 : decode cX1_loseCallsAt 36 = .ok (.iconst 3, 1) := by decide +kernel
theorem dX1_loseCallsAt_37 : decode cX1_loseCallsAt 37 = .ok (.dup2, 1) := by decide +kernel
theorem dX1_loseCallsAt_38 : decode cX1_loseCallsAt 38 = .ok (.iaload, 1) := by decide +kernel
theorem dX1_loseCallsAt_39 : decode cX1_loseCallsAt 39 = .ok (.iconst 1, 1) := by decide +kernel
theorem dX1_loseCallsAt_40 : decode cX1_loseCallsAt 40 = .ok (.iadd, 1) := by decide +kernel
theorem dX1_loseCallsAt_41 : decode cX1_loseCallsAt 41 = .ok (.iastore, 1) := by decide +kernel
theorem dX1_loseCallsAt_42 : decode cX1_loseCallsAt 42 = .ok (.iinc 2 1, 3) := by decide +kernel
theorem dX1_loseCallsAt_45 : decode cX1_loseCallsAt 45 = .ok (.goto (-43), 3) := by decide +kernel
theorem dX1_loseCallsAt_48 : decode cX1_loseCallsAt 48 = .ok (.return_, 1) := by decide +kernel
theorem dX1_moveCallsHome_0 : decode cX1_moveCallsHome 0 = .ok (.iconst 0, 1) := by decide +kernel
theorem dX1_moveCallsHome_1 : decode cX1_moveCallsHome 1 = .ok (.istore_n 1, 1) := by decide +kernel
theorem dX1_moveCallsHome_2 : decode cX1_moveCallsHome 2 = .ok (.iload_n 1, 1) := by decide +kernel
theorem dX1_moveCallsHome_3 : decode cX1_moveCallsHome 3 = .ok (.bipush 100, 2) := by decide +kernel
theorem dX1_moveCallsHome_5 : decode cX1_moveCallsHome 5 = .ok (.if_icmp .ge 52, 3) := by decide +kernel
theorem dX1_moveCallsHome_8 : decode cX1_moveCallsHome 8 = .ok (.aload_n 0, 1) := by decide +kernel
theorem dX1_moveCallsHome_9 : decode cX1_moveCallsHome 9 = .ok (.getfield 38, 3) := by decide +kernel
theorem dX1_moveCallsHome_12 : decode cX1_moveCallsHome 12 = .ok (.iload_n 1, 1) := by decide +kernel
theorem dX1_moveCallsHome_13 : decode cX1_moveCallsHome 13 = .ok (.aaload, 1) := by decide +kernel
theorem dX1_moveCallsHome_14 : decode cX1_moveCallsHome 14 = .ok (.astore_n 2, 1) := by decide +kernel
theorem dX1_moveCallsHome_15 : decode cX1_moveCallsHome 15 = .ok (.aload_n 2, 1) := by decide +kernel
theorem dX1_moveCallsHome_16 : decode cX1_moveCallsHome 16 = .ok (.ifnonnull 6, 3) := by decide +kernel
theorem dX1_moveCallsHome_19 : decode cX1_moveCallsHome 19 = .ok (.goto 32, 3) := by decide +kernel
theorem dX1_moveCallsHome_22 : decode cX1_moveCallsHome 22 = .ok (.aload_n 0, 1) := by decide +kernel
theorem dX1_moveCallsHome_23 : decode cX1_moveCallsHome 23 = .ok (.iload_n 1, 1) := by decide +kernel
theorem dX1_moveCallsHome_24 : decode cX1_moveCallsHome 24 = .ok (.invokevirtual 63, 3) := by decide +kernel
theorem dX1_moveCallsHome_27 : decode cX1_moveCallsHome 27 = .ok (.istore_n 3, 1) := by decide +kernel
theorem dX1_moveCallsHome_28 : decode cX1_moveCallsHome 28 = .ok (.iload_n 3, 1) := by decide +kernel
theorem dX1_moveCallsHome_29 : decode cX1_moveCallsHome 29 = .ok (.aload_n 2, 1) := by decide +kernel
theorem dX1_moveCallsHome_30 : decode cX1_moveCallsHome 30 = .ok (.getfield 105, 3) := by decide +kernel
theorem dX1_moveCallsHome_33 : decode cX1_moveCallsHome 33 = .ok (.if_icmp .eq 18, 3) := by decide +kernel
theorem dX1_moveCallsHome_36 : decode cX1_moveCallsHome 36 = .ok (.aload_n 2, 1) := by decide +kernel
theorem dX1_moveCallsHome_37 : decode cX1_moveCallsHome 37 = .ok (.iload_n 3, 1) := by decide +kernel
theorem dX1_moveCallsHome_38 : decode cX1_moveCallsHome 38 = .ok (.putfield 105, 3) := by decide +kernel
theorem dX1_moveCallsHome_41 : decode cX1_moveCallsHome 41 = .ok (.aload_n 0, 1) := by decide +kernel
theorem dX1_moveCallsHome_42 : decode cX1_moveCallsHome 42 = .ok (.getfield 25, 3) := by decide +kernel
theorem dX1_moveCallsHome_45 : decode cX1_moveCallsHome 45 = .ok (.iconst 4, 1) := by decide +kernel
theorem dX1_moveCallsHome_46 : decode cX1_moveCallsHome 46 = .ok (.dup2, 1) := by decide +kernel
theorem dX1_moveCallsHome_47 : decode cX1_moveCallsHome 47 = .ok (.iaload, 1) := by decide +kernel
theorem dX1_moveCallsHome_48 : decode cX1_moveCallsHome 48 = .ok (.iconst 1, 1) := by decide +kernel
theorem dX1_moveCallsHome_49 : decode cX1_moveCallsHome 49 = .ok (.iadd, 1) := by decide +kernel
theorem dX1_moveCallsHome_50 : decode cX1_moveCallsHome 50 = .ok (.iastore, 1) := by decide +kernel
theorem dX1_moveCallsHome_51 : decode cX1_moveCallsHome 51 = .ok (.iinc 1 1, 3) := by decide +kernel
theorem dX1_moveCallsHome_54 : decode cX1_moveCallsHome 54 = .ok (.goto (-52), 3) := by decide +kernel
theorem dX1_moveCallsHome_57 : decode cX1_moveCallsHome 57 = .ok (.return_, 1) := by decide +kernel
theorem dX1_stopWaiting_0 : decode cX1_stopWaiting 0 = .ok (.aload_n 0, 1) := by decide +kernel
theorem dX1_stopWaiting_1 : decode cX1_stopWaiting 1 = .ok (.getfield 38, 3) := by decide +kernel
theorem dX1_stopWaiting_4 : decode cX1_stopWaiting 4 = .ok (.aload_n 1, 1) := by decide +kernel
theorem dX1_stopWaiting_5 : decode cX1_stopWaiting 5 = .ok (.getfield 131, 3) := by decide +kernel
theorem dX1_stopWaiting_8 : decode cX1_stopWaiting 8 = .ok (.aconst_null, 1) := by decide +kernel
theorem dX1_stopWaiting_9 : decode cX1_stopWaiting 9 = .ok (.aastore, 1) := by decide +kernel
theorem dX1_stopWaiting_10 : decode cX1_stopWaiting 10 = .ok (.aload_n 0, 1) := by decide +kernel
theorem dX1_stopWaiting_11 : decode cX1_stopWaiting 11 = .ok (.getfield 25, 3) := by decide +kernel
theorem dX1_stopWaiting_14 : decode cX1_stopWaiting 14 = .ok (.iconst 1, 1) := by decide +kernel
theorem dX1_stopWaiting_15 : decode cX1_stopWaiting 15 = .ok (.dup2, 1) := by decide +kernel
theorem dX1_stopWaiting_16 : decode cX1_stopWaiting 16 = .ok (.iaload, 1) := by decide +kernel
theorem dX1_stopWaiting_17 : decode cX1_stopWaiting 17 = .ok (.iconst 1, 1) := by decide +kernel
theorem dX1_stopWaiting_18 : decode cX1_stopWaiting 18 = .ok (.isub, 1) := by decide +kernel
theorem dX1_stopWaiting_19 : decode cX1_stopWaiting 19 = .ok (.iastore, 1) := by decide +kernel
theorem dX1_stopWaiting_20 : decode cX1_stopWaiting 20 = .ok (.return_, 1) := by decide +kernel
theorem dX1_leaveFair_0 : decode cX1_leaveFair 0 = .ok (.iconst 0, 1) := by decide +kernel
theorem dX1_leaveFair_1 : decode cX1_leaveFair 1 = .ok (.istore_n 1, 1) := by decide +kernel
theorem dX1_leaveFair_2 : decode cX1_leaveFair 2 = .ok (.iload_n 1, 1) := by decide +kernel
theorem dX1_leaveFair_3 : decode cX1_leaveFair 3 = .ok (.iconst 5, 1) := by decide +kernel
theorem dX1_leaveFair_4 : decode cX1_leaveFair 4 = .ok (.if_icmp .ge 38, 3) := by decide +kernel
theorem dX1_leaveFair_7 : decode cX1_leaveFair 7 = .ok (.aload_n 0, 1) := by decide +kernel
theorem dX1_leaveFair_8 : decode cX1_leaveFair 8 = .ok (.getfield 30, 3) := by decide +kernel
theorem dX1_leaveFair_11 : decode cX1_leaveFair 11 = .ok (.iload_n 1, 1) := by decide +kernel
theorem dX1_leaveFair_12 : decode cX1_leaveFair 12 = .ok (.aaload, 1) := by decide +kernel
theorem dX1_leaveFair_13 : decode cX1_leaveFair 13 = .ok (.bipush 6, 2) := by decide +kernel
theorem dX1_leaveFair_15 : decode cX1_leaveFair 15 = .ok (.dup2, 1) := by decide +kernel
theorem dX1_leaveFair_16 : decode cX1_leaveFair 16 = .ok (.iaload, 1) := by decide +kernel
theorem dX1_leaveFair_17 : decode cX1_leaveFair 17 = .ok (.aload_n 0, 1) := by decide +kernel
theorem dX1_leaveFair_18 : decode cX1_leaveFair 18 = .ok (.getfield 30, 3) := by decide +kernel
theorem dX1_leaveFair_21 : decode cX1_leaveFair 21 = .ok (.iload_n 1, 1) := by decide +kernel
theorem dX1_leaveFair_22 : decode cX1_leaveFair 22 = .ok (.aaload, 1) := by decide +kernel
theorem dX1_leaveFair_23 : decode cX1_leaveFair 23 = .ok (.iconst 5, 1) := by decide +kernel
theorem dX1_leaveFair_24 : decode cX1_leaveFair 24 = .ok (.iaload, 1) := by decide +kernel
theorem dX1_leaveFair_25 : decode cX1_leaveFair 25 = .ok (.iadd, 1) := by decide +kernel
theorem dX1_leaveFair_26 : decode cX1_leaveFair 26 = .ok (.iastore, 1) := by decide +kernel
theorem dX1_leaveFair_27 : decode cX1_leaveFair 27 = .ok (.aload_n 0, 1) := by decide +kernel
theorem dX1_leaveFair_28 : decode cX1_leaveFair 28 = .ok (.getfield 30, 3) := by decide +kernel
theorem dX1_leaveFair_31 : decode cX1_leaveFair 31 = .ok (.iload_n 1, 1) := by decide +kernel
theorem dX1_leaveFair_32 : decode cX1_leaveFair 32 = .ok (.aaload, 1) := by decide +kernel
theorem dX1_leaveFair_33 : decode cX1_leaveFair 33 = .ok (.iconst 5, 1) := by decide +kernel
theorem dX1_leaveFair_34 : decode cX1_leaveFair 34 = .ok (.iconst 0, 1) := by decide +kernel
theorem dX1_leaveFair_35 : decode cX1_leaveFair 35 = .ok (.iastore, 1) := by decide +kernel
theorem dX1_leaveFair_36 : decode cX1_leaveFair 36 = .ok (.iinc 1 1, 3) := by decide +kernel
theorem dX1_leaveFair_39 : decode cX1_leaveFair 39 = .ok (.goto (-37), 3) := by decide +kernel
theorem dX1_leaveFair_42 : decode cX1_leaveFair 42 = .ok (.return_, 1) := by decide +kernel
theorem dX1_hearWaiting_0 : decode cX1_hearWaiting 0 = .ok (.aload_n 1, 1) := by decide +kernel
theorem dX1_hearWaiting_1 : decode cX1_hearWaiting 1 = .ok (.iload_n 2, 1) := by decide +kernel
theorem dX1_hearWaiting_2 : decode cX1_hearWaiting 2 = .ok (.invokevirtual 156, 3) := by decide +kernel
theorem dX1_hearWaiting_5 : decode cX1_hearWaiting 5 = .ok (.ifCond .eq 10, 3) := by decide +kernel
theorem dX1_hearWaiting_8 : decode cX1_hearWaiting 8 = .ok (.aload_n 0, 1) := by decide +kernel
theorem dX1_hearWaiting_9 : decode cX1_hearWaiting 9 = .ok (.iconst 5, 1) := by decide +kernel
theorem dX1_hearWaiting_10 : decode cX1_hearWaiting 10 = .ok (.iconst 3, 1) := by decide +kernel
theorem dX1_hearWaiting_11 : decode cX1_hearWaiting 11 = .ok (.invokevirtual 80, 3) := by decide +kernel
theorem dX1_hearWaiting_14 : decode cX1_hearWaiting 14 = .ok (.ireturn, 1) := by decide +kernel
theorem dX1_hearWaiting_15 : decode cX1_hearWaiting 15 = .ok (.aload_n 1, 1) := by decide +kernel
theorem dX1_hearWaiting_16 : decode cX1_hearWaiting 16 = .ok (.iload_n 2, 1) := by decide +kernel
theorem dX1_hearWaiting_17 : decode cX1_hearWaiting 17 = .ok (.iload_n 3, 1) := by decide +kernel
theorem dX1_hearWaiting_18 : decode cX1_hearWaiting 18 = .ok (.invokevirtual 160, 3) := by decide +kernel
theorem dX1_hearWaiting_21 : decode cX1_hearWaiting 21 = .ok (.ifCond .eq 11, 3) := by decide +kernel
theorem dX1_hearWaiting_24 : decode cX1_hearWaiting 24 = .ok (.aload_n 0, 1) := by decide +kernel
theorem dX1_hearWaiting_25 : decode cX1_hearWaiting 25 = .ok (.bipush 6, 2) := by decide +kernel
theorem dX1_hearWaiting_27 : decode cX1_hearWaiting 27 = .ok (.iconst 4, 1) := by decide +kernel
theorem dX1_hearWaiting_28 : decode cX1_hearWaiting 28 = .ok (.invokevirtual 80, 3) := by decide +kernel
theorem dX1_hearWaiting_31 : decode cX1_hearWaiting 31 = .ok (.ireturn, 1) := by decide +kernel
theorem dX1_hearWaiting_32 : decode cX1_hearWaiting 32 = .ok (.aload_n 0, 1) := by decide +kernel
theorem dX1_hearWaiting_33 : decode cX1_hearWaiting 33 = .ok (.aload_n 1, 1) := by decide +kernel
theorem dX1_hearWaiting_34 : decode cX1_hearWaiting 34 = .ok (.iload_n 2, 1) := by decide +kernel
theorem dX1_hearWaiting_35 : decode cX1_hearWaiting 35 = .ok (.iload_n 3, 1) := by decide +kernel
theorem dX1_hearWaiting_36 : decode cX1_hearWaiting 36 = .ok (.iload 4, 2) := by decide +kernel
theorem dX1_hearWaiting_38 : decode cX1_hearWaiting 38 = .ok (.invokevirtual 99, 3) := by decide +kernel
theorem dX1_hearWaiting_41 : decode cX1_hearWaiting 41 = .ok (.ireturn, 1) := by decide +kernel
theorem dX1_takeIn_0 : decode cX1_takeIn 0 = .ok (.aload_n 1, 1) := by decide +kernel
theorem dX1_takeIn_1 : decode cX1_takeIn 1 = .ok (.iload_n 2, 1) := by decide +kernel
theorem dX1_takeIn_2 : decode cX1_takeIn 2 = .ok (.iload 4, 2) := by decide +kernel
theorem dX1_takeIn_4 : decode cX1_takeIn 4 = .ok (.invokevirtual 164, 3) := by decide +kernel
theorem dX1_takeIn_7 : decode cX1_takeIn 7 = .ok (.iload_n 3, 1) := by decide +kernel
theorem dX1_takeIn_8 : decode cX1_takeIn 8 = .ok (.ifCond .eq 8, 3) := by decide +kernel
theorem dX1_takeIn_11 : decode cX1_takeIn 11 = .ok (.aload_n 1, 1) := by decide +kernel
theorem dX1_takeIn_12 : decode cX1_takeIn 12 = .ok (.iload_n 2, 1) := by decide +kernel
theorem dX1_takeIn_13 : decode cX1_takeIn 13 = .ok (.putfield 118, 3) := by decide +kernel
theorem dX1_takeIn_16 : decode cX1_takeIn 16 = .ok (.aload_n 1, 1) := by decide +kernel
theorem dX1_takeIn_17 : decode cX1_takeIn 17 = .ok (.invokevirtual 168, 3) := by decide +kernel
theorem dX1_takeIn_20 : decode cX1_takeIn 20 = .ok (.ifCond .ne 5, 3) := by decide +kernel
theorem dX1_takeIn_23 : decode cX1_takeIn 23 = .ok (.iconst 1, 1) := by decide +kernel
theorem dX1_takeIn_24 : decode cX1_takeIn 24 = .ok (.ireturn, 1) := by decide +kernel
theorem dX1_takeIn_25 : decode cX1_takeIn 25 = .ok (.aload_n 0, 1) := by decide +kernel
theorem dX1_takeIn_26 : decode cX1_takeIn 26 = .ok (.aload_n 1, 1) := by decide +kernel
theorem dX1_takeIn_27 : decode cX1_takeIn 27 = .ok (.iconst 0, 1) := by decide +kernel
theorem dX1_takeIn_28 : decode cX1_takeIn 28 = .ok (.invokevirtual 172, 3) := by decide +kernel
theorem dX1_takeIn_31 : decode cX1_takeIn 31 = .ok (.iconst 2, 1) := by decide +kernel
theorem dX1_takeIn_32 : decode cX1_takeIn 32 = .ok (.ireturn, 1) := by decide +kernel

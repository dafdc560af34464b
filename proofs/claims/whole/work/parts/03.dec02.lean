theorem dX1_hearDecided_0 : decode cX1_hearDecided 0 = .ok (.aload_n 0, 1) := by decide +kernel
theorem dX1_hearDecided_1 : decode cX1_hearDecided 1 = .ok (.getfield 25, 3) := by decide +kernel
theorem dX1_hearDecided_4 : decode cX1_hearDecided 4 = .ok (.iconst 0, 1) := by decide +kernel
theorem dX1_hearDecided_5 : decode cX1_hearDecided 5 = .ok (.iaload, 1) := by decide +kernel
theorem dX1_hearDecided_6 : decode cX1_hearDecided 6 = .ok (.aload_n 1, 1) := by decide +kernel
theorem dX1_hearDecided_7 : decode cX1_hearDecided 7 = .ok (.getfield 140, 3) := by decide +kernel
theorem dX1_hearDecided_10 : decode cX1_hearDecided 10 = .ok (.isub, 1) := by decide +kernel
theorem dX1_hearDecided_11 : decode cX1_hearDecided 11 = .ok (.aload_n 0, 1) := by decide +kernel
theorem dX1_hearDecided_12 : decode cX1_hearDecided 12 = .ok (.getfield 22, 3) := by decide +kernel
theorem dX1_hearDecided_15 : decode cX1_hearDecided 15 = .ok (.iconst 5, 1) := by decide +kernel
theorem dX1_hearDecided_16 : decode cX1_hearDecided 16 = .ok (.iaload, 1) := by decide +kernel
theorem dX1_hearDecided_17 : decode cX1_hearDecided 17 = .ok (.if_icmp .gt 7, 3) := by decide +kernel
theorem dX1_hearDecided_20 : decode cX1_hearDecided 20 = .ok (.iconst 1, 1) := by decide +kernel
theorem dX1_hearDecided_21 : decode cX1_hearDecided 21 = .ok (.goto 4, 3) := by decide +kernel
theorem dX1_hearDecided_24 : decode cX1_hearDecided 24 = .ok (.iconst 0, 1) := by decide +kernel
theorem dX1_hearDecided_25 : decode cX1_hearDecided 25 = .ok (.istore 4, 2) := by decide +kernel
theorem dX1_hearDecided_27 : decode cX1_hearDecided 27 = .ok (.aload_n 1, 1) := by decide +kernel
theorem dX1_hearDecided_28 : decode cX1_hearDecided 28 = .ok (.getfield 124, 3) := by decide +kernel
theorem dX1_hearDecided_31 : decode cX1_hearDecided 31 = .ok (.ifCond .eq 16, 3) := by decide +kernel
theorem dX1_hearDecided_34 : decode cX1_hearDecided 34 = .ok (.iload 4, 2) := by decide +kernel
theorem dX1_hearDecided_36 : decode cX1_hearDecided 36 = .ok (.ifCond .eq 11, 3) := by decide +kernel
theorem dX1_hearDecided_39 : decode cX1_hearDecided 39 = .ok (.aload_n 1, 1) := by decide +kernel
theorem dX1_hearDecided_40 : decode cX1_hearDecided 40 = .ok (.iload_n 2, 1) := by decide +kernel
theorem dX1_hearDecided_41 : decode cX1_hearDecided 41 = .ok (.invokevirtual 156, 3) := by decide +kernel
theorem dX1_hearDecided_44 : decode cX1_hearDecided 44 = .ok (.ifCond .eq 12, 3) := by decide +kernel
theorem dX1_hearDecided_47 : decode cX1_hearDecided 47 = .ok (.aload_n 0, 1) := by decide +kernel
theorem dX1_hearDecided_48 : decode cX1_hearDecided 48 = .ok (.bipush 8, 2) := by decide +kernel
theorem dX1_hearDecided_50 : decode cX1_hearDecided 50 = .ok (.bipush 6, 2) := by decide +kernel
theorem dX1_hearDecided_52 : decode cX1_hearDecided 52 = .ok (.invokevirtual 80, 3) := by decide +kernel
theorem dX1_hearDecided_55 : decode cX1_hearDecided 55 = .ok (.ireturn, 1) := by decide +kernel
theorem dX1_hearDecided_56 : decode cX1_hearDecided 56 = .ok (.aload_n 1, 1) := by decide +kernel
theorem dX1_hearDecided_57 : decode cX1_hearDecided 57 = .ok (.iload_n 2, 1) := by decide +kernel
theorem dX1_hearDecided_58 : decode cX1_hearDecided 58 = .ok (.iload_n 3, 1) := by decide +kernel
theorem dX1_hearDecided_59 : decode cX1_hearDecided 59 = .ok (.invokevirtual 164, 3) := by decide +kernel
theorem dX1_hearDecided_62 : decode cX1_hearDecided 62 = .ok (.aload_n 0, 1) := by decide +kernel
theorem dX1_hearDecided_63 : decode cX1_hearDecided 63 = .ok (.bipush 7, 2) := by decide +kernel
theorem dX1_hearDecided_65 : decode cX1_hearDecided 65 = .ok (.iconst 5, 1) := by decide +kernel
theorem dX1_hearDecided_66 : decode cX1_hearDecided 66 = .ok (.invokevirtual 80, 3) := by decide +kernel
theorem dX1_hearDecided_69 : decode cX1_hearDecided 69 = .ok (.ireturn, 1) := by decide +kernel
theorem dX1_recall_0 : decode cX1_recall 0 = .ok (.aload_n 0, 1) := by decide +kernel
theorem dX1_recall_1 : decode cX1_recall 1 = .ok (.getfield 42, 3) := by decide +kernel
theorem dX1_recall_4 : decode cX1_recall 4 = .ok (.iload_n 1, 1) := by decide +kernel
theorem dX1_recall_5 : decode cX1_recall 5 = .ok (.aaload, 1) := by decide +kernel
theorem dX1_recall_6 : decode cX1_recall 6 = .ok (.astore_n 2, 1) := by decide +kernel
theorem dX1_recall_7 : decode cX1_recall 7 = .ok (.aload_n 2, 1) := by decide +kernel
theorem dX1_recall_8 : decode cX1_recall 8 = .ok (.ifnull 26, 3) := by decide +kernel
theorem dX1_recall_11 : decode cX1_recall 11 = .ok (.aload_n 2, 1) := by decide +kernel
theorem dX1_recall_12 : decode cX1_recall 12 = .ok (.getfield 146, 3) := by decide +kernel
theorem dX1_recall_15 : decode cX1_recall 15 = .ok (.ifCond .ne 19, 3) := by decide +kernel
theorem dX1_recall_18 : decode cX1_recall 18 = .ok (.aload_n 0, 1) := by decide +kernel
theorem dX1_recall_19 : decode cX1_recall 19 = .ok (.getfield 25, 3) := by decide +kernel
theorem dX1_recall_22 : decode cX1_recall 22 = .ok (.iconst 0, 1) := by decide +kernel
theorem dX1_recall_23 : decode cX1_recall 23 = .ok (.iaload, 1) := by decide +kernel
theorem dX1_recall_24 : decode cX1_recall 24 = .ok (.aload_n 2, 1) := by decide +kernel
theorem dX1_recall_25 : decode cX1_recall 25 = .ok (.getfield 140, 3) := by decide +kernel
theorem dX1_recall_28 : decode cX1_recall 28 = .ok (.isub, 1) := by decide +kernel
theorem dX1_recall_29 : decode cX1_recall 29 = .ok (.bipush 50, 2) := by decide +kernel
theorem dX1_recall_31 : decode cX1_recall 31 = .ok (.if_icmp .lt 5, 3) := by decide +kernel
theorem dX1_recall_34 : decode cX1_recall 34 = .ok (.aconst_null, 1) := by decide +kernel
theorem dX1_recall_35 : decode cX1_recall 35 = .ok (.areturn, 1) := by decide +kernel
theorem dX1_recall_36 : decode cX1_recall 36 = .ok (.aload_n 2, 1) := by decide +kernel
theorem dX1_recall_37 : decode cX1_recall 37 = .ok (.areturn, 1) := by decide +kernel
theorem dX1_passOneTick_0 : decode cX1_passOneTick 0 = .ok (.aload_n 0, 1) := by decide +kernel
theorem dX1_passOneTick_1 : decode cX1_passOneTick 1 = .ok (.getfield 25, 3) := by decide +kernel
theorem dX1_passOneTick_4 : decode cX1_passOneTick 4 = .ok (.iconst 0, 1) := by decide +kernel
theorem dX1_passOneTick_5 : decode cX1_passOneTick 5 = .ok (.dup2, 1) := by decide +kernel
theorem dX1_passOneTick_6 : decode cX1_passOneTick 6 = .ok (.iaload, 1) := by decide +kernel
theorem dX1_passOneTick_7 : decode cX1_passOneTick 7 = .ok (.iconst 1, 1) := by decide +kernel
theorem dX1_passOneTick_8 : decode cX1_passOneTick 8 = .ok (.iadd, 1) := by decide +kernel
theorem dX1_passOneTick_9 : decode cX1_passOneTick 9 = .ok (.iastore, 1) := by decide +kernel
theorem dX1_passOneTick_10 : decode cX1_passOneTick 10 = .ok (.iconst 0, 1) := by decide +kernel
theorem dX1_passOneTick_11 : decode cX1_passOneTick 11 = .ok (.istore_n 1, 1) := by decide +kernel
theorem dX1_passOneTick_12 : decode cX1_passOneTick 12 = .ok (.iload_n 1, 1) := by decide +kernel
theorem dX1_passOneTick_13 : decode cX1_passOneTick 13 = .ok (.bipush 100, 2) := by decide +kernel
theorem dX1_passOneTick_15 : decode cX1_passOneTick 15 = .ok (.if_icmp .ge 46, 3) := by decide +kernel
theorem dX1_passOneTick_18 : decode cX1_passOneTick 18 = .ok (.aload_n 0, 1) := by decide +kernel
theorem dX1_passOneTick_19 : decode cX1_passOneTick 19 = .ok (.getfield 38, 3) := by decide +kernel
theorem dX1_passOneTick_22 : decode cX1_passOneTick 22 = .ok (.iload_n 1, 1) := by decide +kernel
theorem dX1_passOneTick_23 : decode cX1_passOneTick 23 = .ok (.aaload, 1) := by decide +kernel
theorem dX1_passOneTick_24 : decode cX1_passOneTick 24 = .ok (.astore_n 2, 1) := by decide +kernel
theorem dX1_passOneTick_25 : decode cX1_passOneTick 25 = .ok (.aload_n 2, 1) := by decide +kernel
theorem dX1_passOneTick_26 : decode cX1_passOneTick 26 = .ok (.ifnull 29, 3) := by decide +kernel
theorem dX1_passOneTick_29 : decode cX1_passOneTick 29 = .ok (.aload_n 0, 1) := by decide +kernel
theorem dX1_passOneTick_30 : decode cX1_passOneTick 30 = .ok (.getfield 25, 3) := by decide +kernel
theorem dX1_passOneTick_33 : decode cX1_passOneTick 33 = .ok (.iconst 0, 1) := by decide +kernel
theorem dX1_passOneTick_34 : decode cX1_passOneTick 34 = .ok (.iaload, 1) := by decide +kernel
theorem dX1_passOneTick_35 : decode cX1_passOneTick 35 = .ok (.aload_n 2, 1) := by decide +kernel
theorem dX1_passOneTick_36 : decode cX1_passOneTick 36 = .ok (.getfield 121, 3) := by decide +kernel
theorem dX1_passOneTick_39 : decode cX1_passOneTick 39 = .ok (.isub, 1) := by decide +kernel
theorem dX1_passOneTick_40 : decode cX1_passOneTick 40 = .ok (.aload_n 0, 1) := by decide +kernel
theorem dX1_passOneTick_41 : decode cX1_passOneTick 41 = .ok (.getfield 22, 3) := by decide +kernel
theorem dX1_passOneTick_44 : decode cX1_passOneTick 44 = .ok (.iconst 4, 1) := by decide +kernel
theorem dX1_passOneTick_45 : decode cX1_passOneTick 45 = .ok (.iaload, 1) := by decide +kernel
theorem dX1_passOneTick_46 : decode cX1_passOneTick 46 = .ok (.if_icmp .lt 9, 3) := by decide +kernel
theorem dX1_passOneTick_49 : decode cX1_passOneTick 49 = .ok (.aload_n 0, 1) := by decide +kernel
theorem dX1_passOneTick_50 : decode cX1_passOneTick 50 = .ok (.aload_n 2, 1) := by decide +kernel
theorem dX1_passOneTick_51 : decode cX1_passOneTick 51 = .ok (.iconst 1, 1) := by decide +kernel
theorem dX1_passOneTick_52 : decode cX1_passOneTick 52 = .ok (.invokevirtual 172, 3) := by decide +kernel
theorem dX1_passOneTick_55 : decode cX1_passOneTick 55 = .ok (.iinc 1 1, 3) := by decide +kernel
theorem dX1_passOneTick_58 : decode cX1_passOneTick 58 = .ok (.goto (-46), 3) := by decide +kernel
theorem dX1_passOneTick_61 : decode cX1_passOneTick 61 = .ok (.return_, 1) := by decide +kernel
theorem dX1_decide_0 : decode cX1_decide 0 = .ok (.aload_n 0, 1) := by decide +kernel
theorem dX1_decide_1 : decode cX1_decide 1 = .ok (.aload_n 1, 1) := by decide +kernel
theorem dX1_decide_2 : decode cX1_decide 2 = .ok (.invokevirtual 152, 3) := by decide +kernel
theorem dX1_decide_5 : decode cX1_decide 5 = .ok (.aload_n 0, 1) := by decide +kernel
theorem dX1_decide_6 : decode cX1_decide 6 = .ok (.getfield 42, 3) := by decide +kernel
theorem dX1_decide_9 : decode cX1_decide 9 = .ok (.aload_n 1, 1) := by decide +kernel
theorem dX1_decide_10 : decode cX1_decide 10 = .ok (.getfield 131, 3) := by decide +kernel
theorem dX1_decide_13 : decode cX1_decide 13 = .ok (.aload_n 1, 1) := by decide +kernel
theorem dX1_decide_14 : decode cX1_decide 14 = .ok (.aastore, 1) := by decide +kernel
theorem dX1_decide_15 : decode cX1_decide 15 = .ok (.aload_n 1, 1) := by decide +kernel
theorem dX1_decide_16 : decode cX1_decide 16 = .ok (.iload_n 2, 1) := by decide +kernel
theorem dX1_decide_17 : decode cX1_decide 17 = .ok (.putfield 137, 3) := by decide +kernel
theorem dX1_decide_20 : decode cX1_decide 20 = .ok (.aload_n 1, 1) := by decide +kernel
theorem dX1_decide_21 : decode cX1_decide 21 = .ok (.aload_n 0, 1) := by decide +kernel
theorem dX1_decide_22 : decode cX1_decide 22 = .ok (.getfield 25, 3) := by decide +kernel
theorem dX1_decide_25 : decode cX1_decide 25 = .ok (.iconst 0, 1) := by decide +kernel
theorem dX1_decide_26 : decode cX1_decide 26 = .ok (.iaload, 1) := by decide +kernel
theorem dX1_decide_27 : decode cX1_decide 27 = .ok (.putfield 140, 3) := by decide +kernel
theorem dX1_decide_30 : decode cX1_decide 30 = .ok (.aload_n 1, 1) := by decide +kernel
theorem dX1_decide_31 : decode cX1_decide 31 = .ok (.iload_n 2, 1) := by decide +kernel
theorem dX1_decide_32 : decode cX1_decide 32 = .ok (.ifCond .eq 11, 3) := by decide +kernel
theorem dX1_decide_35 : decode cX1_decide 35 = .ok (.aload_n 0, 1) := by decide +kernel
theorem dX1_decide_36 : decode cX1_decide 36 = .ok (.aload_n 1, 1) := by decide +kernel
theorem dX1_decide_37 : decode cX1_decide 37 = .ok (.invokevirtual 176, 3) := by decide +kernel
theorem dX1_decide_40 : decode cX1_decide 40 = .ok (.goto 8, 3) := by decide +kernel
theorem dX1_decide_43 : decode cX1_decide 43 = .ok (.aload_n 0, 1) := by decide +kernel
theorem dX1_decide_44 : decode cX1_decide 44 = .ok (.aload_n 1, 1) := by decide +kernel
theorem dX1_decide_45 : decode cX1_decide 45 = .ok (.invokevirtual 180, 3) := by decide +kernel
theorem dX1_decide_48 : decode cX1_decide 48 = .ok (.putfield 134, 3) := by decide +kernel
theorem dX1_decide_51 : decode cX1_decide 51 = .ok (.aload_n 0, 1) := by decide +kernel
theorem dX1_decide_52 : decode cX1_decide 52 = .ok (.getfield 30, 3) := by decide +kernel
theorem dX1_decide_55 : decode cX1_decide 55 = .ok (.aload_n 1, 1) := by decide +kernel
theorem dX1_decide_56 : decode cX1_decide 56 = .ok (.getfield 112, 3) := by decide +kernel
theorem dX1_decide_59 : decode cX1_decide 59 = .ok (.aaload, 1) := by decide +kernel
theorem dX1_decide_60 : decode cX1_decide 60 = .ok (.iconst 0, 1) := by decide +kernel
theorem dX1_decide_61 : decode cX1_decide 61 = .ok (.dup2, 1) := by decide +kernel
theorem dX1_decide_62 : decode cX1_decide 62 = .ok (.iaload, 1) := by decide +kernel
theorem dX1_decide_63 : decode cX1_decide 63 = .ok (.iconst 1, 1) := by decide +kernel
theorem dX1_decide_64 : decode cX1_decide 64 = .ok (.iadd, 1) := by decide +kernel
theorem dX1_decide_65 : decode cX1_decide 65 = .ok (.iastore, 1) := by decide +kernel
theorem dX1_decide_66 : decode cX1_decide 66 = .ok (.aload_n 0, 1) := by decide +kernel
theorem dX1_decide_67 : decode cX1_decide 67 = .ok (.getfield 33, 3) := by decide +kernel
theorem dX1_decide_70 : decode cX1_decide 70 = .ok (.aload_n 1, 1) := by decide +kernel
theorem dX1_decide_71 : decode cX1_decide 71 = .ok (.getfield 115, 3) := by decide +kernel
theorem dX1_decide_74 : decode cX1_decide 74 = .ok (.invokestatic 183, 3) := by decide +kernel
theorem dX1_decide_77 : decode cX1_decide 77 = .ok (.dup2, 1) := by decide +kernel
theorem dX1_decide_78 : decode cX1_decide 78 = .ok (.iaload, 1) := by decide +kernel
theorem dX1_decide_79 : decode cX1_decide 79 = .ok (.iconst 1, 1) := by decide +kernel
theorem dX1_decide_80 : decode cX1_decide 80 = .ok (.iadd, 1) := by decide +kernel
theorem dX1_decide_81 : decode cX1_decide 81 = .ok (.iastore, 1) := by decide +kernel
theorem dX1_decide_82 : decode cX1_decide 82 = .ok (.aload_n 0, 1) := by decide +kernel
theorem dX1_decide_83 : decode cX1_decide 83 = .ok (.getfield 25, 3) := by decide +kernel
theorem dX1_decide_86 : decode cX1_decide 86 = .ok (.bipush 10, 2) := by decide +kernel
theorem dX1_decide_88 : decode cX1_decide 88 = .ok (.dup2, 1) := by decide +kernel
theorem dX1_decide_89 : decode cX1_decide 89 = .ok (.iaload, 1) := by decide +kernel
theorem dX1_decide_90 : decode cX1_decide 90 = .ok (.iconst 1, 1) := by decide +kernel
theorem dX1_decide_91 : decode cX1_decide 91 = .ok (.iadd, 1) := by decide +kernel
theorem dX1_decide_92 : decode cX1_decide 92 = .ok (.iastore, 1) := by decide +kernel
theorem dX1_decide_93 : decode cX1_decide 93 = .ok (.iload_n 2, 1) := by decide +kernel
theorem dX1_decide_94 : decode cX1_decide 94 = .ok (.ifCond .eq 14, 3) := by decide +kernel
theorem dX1_decide_97 : decode cX1_decide 97 = .ok (.aload_n 0, 1) := by decide +kernel
theorem dX1_decide_98 : decode cX1_decide 98 = .ok (.getfield 25, 3) := by decide +kernel
theorem dX1_decide_101 : decode cX1_decide 101 = .ok (.bipush 11, 2) := by decide +kernel
theorem dX1_decide_103 : decode cX1_decide 103 = .ok (.dup2, 1) := by decide +kernel
theorem dX1_decide_104 : decode cX1_decide 104 = .ok (.iaload, 1) := by decide +kernel
theorem dX1_decide_105 : decode cX1_decide 105 = .ok (.iconst 1, 1) := by decide +kernel
theorem dX1_decide_106 : decode cX1_decide 106 = .ok (.iadd, 1) := by decide +kernel
theorem dX1_decide_107 : decode cX1_decide 107 = .ok (.iastore, 1) := by decide +kernel
theorem dX1_decide_108 : decode cX1_decide 108 = .ok (.aload_n 1, 1) := by decide +kernel
theorem dX1_decide_109 : decode cX1_decide 109 = .ok (.getfield 134, 3) := by decide +kernel
theorem dX1_decide_112 : decode cX1_decide 112 = .ok (.ifCond .le 8, 3) := by decide +kernel
theorem dX1_decide_115 : decode cX1_decide 115 = .ok (.aload_n 0, 1) := by decide +kernel
theorem dX1_decide_116 : decode cX1_decide 116 = .ok (.aload_n 1, 1) := by decide +kernel
theorem dX1_decide_117 : decode cX1_decide 117 = .ok (.invokevirtual 186, 3) := by decide +kernel
theorem dX1_decide_120 : decode cX1_decide 120 = .ok (.return_, 1) := by decide +kernel
theorem dX1_keepOrLetFall_0 : decode cX1_keepOrLetFall 0 = .ok (.aload_n 0, 1) := by decide +kernel
theorem dX1_keepOrLetFall_1 : decode cX1_keepOrLetFall 1 = .ok (.getfield 25, 3) := by decide +kernel
theorem dX1_keepOrLetFall_4 : decode cX1_keepOrLetFall 4 = .ok (.iconst 2, 1) := by decide +kernel
theorem dX1_keepOrLetFall_5 : decode cX1_keepOrLetFall 5 = .ok (.iaload, 1) := by decide +kernel
theorem dX1_keepOrLetFall_6 : decode cX1_keepOrLetFall 6 = .ok (.istore_n 2, 1) := by decide +kernel
theorem dX1_keepOrLetFall_7 : decode cX1_keepOrLetFall 7 = .ok (.iload_n 2, 1) := by decide +kernel
theorem dX1_keepOrLetFall_8 : decode cX1_keepOrLetFall 8 = .ok (.bipush 20, 2) := by decide +kernel
theorem dX1_keepOrLetFall_10 : decode cX1_keepOrLetFall 10 = .ok (.if_icmp .lt 22, 3) := by decide +kernel
theorem dX1_keepOrLetFall_13 : decode cX1_keepOrLetFall 13 = .ok (.aload_n 0, 1) := by decide +kernel
theorem dX1_keepOrLetFall_14 : decode cX1_keepOrLetFall 14 = .ok (.getfield 30, 3) := by decide +kernel
theorem dX1_keepOrLetFall_17 : decode cX1_keepOrLetFall 17 = .ok (.aload_n 1, 1) := by decide +kernel
theorem dX1_keepOrLetFall_18 : decode cX1_keepOrLetFall 18 = .ok (.getfield 112, 3) := by decide +kernel
theorem dX1_keepOrLetFall_21 : decode cX1_keepOrLetFall 21 = .ok (.aaload, 1) := by decide +kernel
theorem dX1_keepOrLetFall_22 : decode cX1_keepOrLetFall 22 = .ok (.iconst 3, 1) := by decide +kernel
theorem dX1_keepOrLetFall_23 : decode cX1_keepOrLetFall 23 = .ok (.dup2, 1) := by decide +kernel
theorem dX1_keepOrLetFall_24 : decode cX1_keepOrLetFall 24 = .ok (.iaload, 1) := by decide +kernel
theorem dX1_keepOrLetFall_25 : decode cX1_keepOrLetFall 25 = .ok (.aload_n 1, 1) := by decide +kernel
theorem dX1_keepOrLetFall_26 : decode cX1_keepOrLetFall 26 = .ok (.getfield 134, 3) := by decide +kernel
theorem dX1_keepOrLetFall_29 : decode cX1_keepOrLetFall 29 = .ok (.iadd, 1) := by decide +kernel
theorem dX1_keepOrLetFall_30 : decode cX1_keepOrLetFall 30 = .ok (.iastore, 1) := by decide +kernel
theorem dX1_keepOrLetFall_31 : decode cX1_keepOrLetFall 31 = .ok (.return_, 1) := by decide +kernel
theorem dX1_keepOrLetFall_32 : decode cX1_keepOrLetFall 32 = .ok (.aload_n 0, 1) := by decide +kernel
theorem dX1_keepOrLetFall_33 : decode cX1_keepOrLetFall 33 = .ok (.getfield 45, 3) := by decide +kernel
theorem dX1_keepOrLetFall_36 : decode cX1_keepOrLetFall 36 = .ok (.iload_n 2, 1) := by decide +kernel
theorem dX1_keepOrLetFall_37 : decode cX1_keepOrLetFall 37 = .ok (.aload_n 1, 1) := by decide +kernel
theorem dX1_keepOrLetFall_38 : decode cX1_keepOrLetFall 38 = .ok (.aastore, 1) := by decide +kernel
theorem dX1_keepOrLetFall_39 : decode cX1_keepOrLetFall 39 = .ok (.aload_n 0, 1) := by decide +kernel
theorem dX1_keepOrLetFall_40 : decode cX1_keepOrLetFall 40 = .ok (.getfield 25, 3) := by decide +kernel
theorem dX1_keepOrLetFall_43 : decode cX1_keepOrLetFall 43 = .ok (.iconst 2, 1) := by decide +kernel
theorem dX1_keepOrLetFall_44 : decode cX1_keepOrLetFall 44 = .ok (.dup2, 1) := by decide +kernel
theorem dX1_keepOrLetFall_45 : decode cX1_keepOrLetFall 45 = .ok (.iaload, 1) := by decide +kernel
theorem dX1_keepOrLetFall_46 : decode cX1_keepOrLetFall 46 = .ok (.iconst 1, 1) := by decide +kernel
theorem dX1_keepOrLetFall_47 : decode cX1_keepOrLetFall 47 = .ok (.iadd, 1) := by decide +kernel
theorem dX1_keepOrLetFall_48 : decode cX1_keepOrLetFall 48 = .ok (.iastore, 1) := by decide +kernel
theorem dX1_keepOrLetFall_49 : decode cX1_keepOrLetFall 49 = .ok (.aload_n 1, 1) := by decide +kernel
theorem dX1_keepOrLetFall_50 : decode cX1_keepOrLetFall 50 = .ok (.iconst 1, 1) := by decide +kernel
theorem dX1_keepOrLetFall_51 : decode cX1_keepOrLetFall 51 = .ok (.putfield 124, 3) := by decide +kernel
theorem dX1_keepOrLetFall_54 : decode cX1_keepOrLetFall 54 = .ok (.aload_n 0, 1) := by decide +kernel
theorem dX1_keepOrLetFall_55 : decode cX1_keepOrLetFall 55 = .ok (.getfield 30, 3) := by decide +kernel
theorem dX1_keepOrLetFall_58 : decode cX1_keepOrLetFall 58 = .ok (.aload_n 1, 1) := by decide +kernel
theorem dX1_keepOrLetFall_59 : decode cX1_keepOrLetFall 59 = .ok (.getfield 112, 3) := by decide +kernel
theorem dX1_keepOrLetFall_62 : decode cX1_keepOrLetFall 62 = .ok (.aaload, 1) := by decide +kernel
theorem dX1_keepOrLetFall_63 : decode cX1_keepOrLetFall 63 = .ok (.iconst 1, 1) := by decide +kernel
theorem dX1_keepOrLetFall_64 : decode cX1_keepOrLetFall 64 = .ok (.dup2, 1) := by decide +kernel
theorem dX1_keepOrLetFall_65 : decode cX1_keepOrLetFall 65 = .ok (.iaload, 1) := by decide +kernel
theorem dX1_keepOrLetFall_66 : decode cX1_keepOrLetFall 66 = .ok (.aload_n 1, 1) := by decide +kernel
theorem dX1_keepOrLetFall_67 : decode cX1_keepOrLetFall 67 = .ok (.getfield 134, 3) := by decide +kernel
theorem dX1_keepOrLetFall_70 : decode cX1_keepOrLetFall 70 = .ok (.iadd, 1) := by decide +kernel
theorem dX1_keepOrLetFall_71 : decode cX1_keepOrLetFall 71 = .ok (.iastore, 1) := by decide +kernel
theorem dX1_keepOrLetFall_72 : decode cX1_keepOrLetFall 72 = .ok (.return_, 1) := by decide +kernel
theorem dX1_keptAt_0 : decode cX1_keptAt 0 = .ok (.iload_n 1, 1) := by decide +kernel
theorem dX1_keptAt_1 : decode cX1_keptAt 1 = .ok (.bipush 20, 2) := by decide +kernel
theorem dX1_keptAt_3 : decode cX1_keptAt 3 = .ok (.invokestatic 52, 3) := by decide +kernel
theorem dX1_keptAt_6 : decode cX1_keptAt 6 = .ok (.ifCond .eq 12, 3) := by decide +kernel
theorem dX1_keptAt_9 : decode cX1_keptAt 9 = .ok (.aload_n 0, 1) := by decide +kernel
theorem dX1_keptAt_10 : decode cX1_keptAt 10 = .ok (.getfield 45, 3) := by decide +kernel
theorem dX1_keptAt_13 : decode cX1_keptAt 13 = .ok (.iload_n 1, 1) := by decide +kernel
theorem dX1_keptAt_14 : decode cX1_keptAt 14 = .ok (.aaload, 1) := by decide +kernel
theorem dX1_keptAt_15 : decode cX1_keptAt 15 = .ok (.goto 4, 3) := by decide +kernel
theorem dX1_keptAt_18 : decode cX1_keptAt 18 = .ok (.aconst_null, 1) := by decide +kernel
theorem dX1_keptAt_19 : decode cX1_keptAt 19 = .ok (.areturn, 1) := by decide +kernel
theorem dX1_closeRowAt_0 : decode cX1_closeRowAt 0 = .ok (.iload_n 1, 1) := by decide +kernel
theorem dX1_closeRowAt_1 : decode cX1_closeRowAt 1 = .ok (.istore_n 2, 1) := by decide +kernel
theorem dX1_closeRowAt_2 : decode cX1_closeRowAt 2 = .ok (.iload_n 2, 1) := by decide +kernel
theorem dX1_closeRowAt_3 : decode cX1_closeRowAt 3 = .ok (.bipush 19, 2) := by decide +kernel
theorem dX1_closeRowAt_5 : decode cX1_closeRowAt 5 = .ok (.if_icmp .ge 23, 3) := by decide +kernel
theorem dX1_closeRowAt_8 : decode cX1_closeRowAt 8 = .ok (.aload_n 0, 1) := by decide +kernel
theorem dX1_closeRowAt_9 : decode cX1_closeRowAt 9 = .ok (.getfield 45, 3) := by decide +kernel
theorem dX1_closeRowAt_12 : decode cX1_closeRowAt 12 = .ok (.iload_n 2, 1) := by decide +kernel
theorem dX1_closeRowAt_13 : decode cX1_closeRowAt 13 = .ok (.aload_n 0, 1) := by decide +kernel
theorem dX1_closeRowAt_14 : decode cX1_closeRowAt 14 = .ok (.getfield 45, 3) := by decide +kernel
theorem dX1_closeRowAt_17 : decode cX1_closeRowAt 17 = .ok (.iload_n 2, 1) := by decide +kernel
theorem dX1_closeRowAt_18 : decode cX1_closeRowAt 18 = .ok (.iconst 1, 1) := by decide +kernel
theorem dX1_closeRowAt_19 : decode cX1_closeRowAt 19 = .ok (.iadd, 1) := by decide +kernel
theorem dX1_closeRowAt_20 : decode cX1_closeRowAt 20 = .ok (.aaload, 1) := by decide +kernel
theorem dX1_closeRowAt_21 : decode cX1_closeRowAt 21 = .ok (.aastore, 1) := by decide +kernel
theorem dX1_closeRowAt_22 : decode cX1_closeRowAt 22 = .ok (.iinc 2 1, 3) := by decide +kernel
theorem dX1_closeRowAt_25 : decode cX1_closeRowAt 25 = .ok (.goto (-23), 3) := by decide +kernel
theorem dX1_closeRowAt_28 : decode cX1_closeRowAt 28 = .ok (.aload_n 0, 1) := by decide +kernel
theorem dX1_closeRowAt_29 : decode cX1_closeRowAt 29 = .ok (.getfield 45, 3) := by decide +kernel
theorem dX1_closeRowAt_32 : decode cX1_closeRowAt 32 = .ok (.bipush 19, 2) := by decide +kernel
theorem dX1_closeRowAt_34 : decode cX1_closeRowAt 34 = .ok (.aconst_null, 1) := by decide +kernel
theorem dX1_closeRowAt_35 : decode cX1_closeRowAt 35 = .ok (.aastore, 1) := by decide +kernel
theorem dX1_closeRowAt_36 : decode cX1_closeRowAt 36 = .ok (.aload_n 0, 1) := by decide +kernel
theorem dX1_closeRowAt_37 : decode cX1_closeRowAt 37 = .ok (.getfield 25, 3) := by decide +kernel
theorem dX1_closeRowAt_40 : decode cX1_closeRowAt 40 = .ok (.iconst 2, 1) := by decide +kernel
theorem dX1_closeRowAt_41 : decode cX1_closeRowAt 41 = .ok (.dup2, 1) := by decide +kernel
theorem dX1_closeRowAt_42 : decode cX1_closeRowAt 42 = .ok (.iaload, 1) := by decide +kernel
theorem dX1_closeRowAt_43 : decode cX1_closeRowAt 43 = .ok (.iconst 1, 1) := by decide +kernel
theorem dX1_closeRowAt_44 : decode cX1_closeRowAt 44 = .ok (.isub, 1) := by decide +kernel
theorem dX1_closeRowAt_45 : decode cX1_closeRowAt 45 = .ok (.iastore, 1) := by decide +kernel
theorem dX1_closeRowAt_46 : decode cX1_closeRowAt 46 = .ok (.return_, 1) := by decide +kernel
theorem dX1_weighTorn_0 : decode cX1_weighTorn 0 = .ok (.aload_n 0, 1) := by decide +kernel
theorem dX1_weighTorn_1 : decode cX1_weighTorn 1 = .ok (.dup, 1) := by decide +kernel
theorem dX1_weighTorn_2 : decode cX1_weighTorn 2 = .ok (.getfield 48, 3) := by decide +kernel
theorem dX1_weighTorn_5 : decode cX1_weighTorn 5 = .ok (.ldc2_w 189, 3) := by decide +kernel
theorem dX1_weighTorn_8 : decode cX1_weighTorn 8 = .ok (.ladd, 1) := by decide +kernel
theorem dX1_weighTorn_9 : decode cX1_weighTorn 9 = .ok (.putfield 48, 3) := by decide +kernel
theorem dX1_weighTorn_12 : decode cX1_weighTorn 12 = .ok (.aload_n 0, 1) := by decide +kernel
theorem dX1_weighTorn_13 : decode cX1_weighTorn 13 = .ok (.getfield 22, 3) := by decide +kernel
theorem dX1_weighTorn_16 : decode cX1_weighTorn 16 = .ok (.iconst 3, 1) := by decide +kernel
theorem dX1_weighTorn_17 : decode cX1_weighTorn 17 = .ok (.iaload, 1) := by decide +kernel
theorem dX1_weighTorn_18 : decode cX1_weighTorn 18 = .ok (.ifCond .ne 20, 3) := by decide +kernel
theorem dX1_weighTorn_21 : decode cX1_weighTorn 21 = .ok (.aload_n 0, 1) := by decide +kernel
theorem dX1_weighTorn_22 : decode cX1_weighTorn 22 = .ok (.getfield 30, 3) := by decide +kernel
theorem dX1_weighTorn_25 : decode cX1_weighTorn 25 = .ok (.aload_n 1, 1) := by decide +kernel
theorem dX1_weighTorn_26 : decode cX1_weighTorn 26 = .ok (.getfield 112, 3) := by decide +kernel
theorem dX1_weighTorn_29 : decode cX1_weighTorn 29 = .ok (.aaload, 1) := by decide +kernel
theorem dX1_weighTorn_30 : decode cX1_weighTorn 30 = .ok (.iconst 4, 1) := by decide +kernel
theorem dX1_weighTorn_31 : decode cX1_weighTorn 31 = .ok (.dup2, 1) := by decide +kernel
theorem dX1_weighTorn_32 : decode cX1_weighTorn 32 = .ok (.iaload, 1) := by decide +kernel
theorem dX1_weighTorn_33 : decode cX1_weighTorn 33 = .ok (.iconst 1, 1) := by decide +kernel
theorem dX1_weighTorn_34 : decode cX1_weighTorn 34 = .ok (.iadd, 1) := by decide +kernel
theorem dX1_weighTorn_35 : decode cX1_weighTorn 35 = .ok (.iastore, 1) := by decide +kernel
theorem dX1_weighTorn_36 : decode cX1_weighTorn 36 = .ok (.iconst 0, 1) := by decide +kernel
theorem dX1_weighTorn_37 : decode cX1_weighTorn 37 = .ok (.ireturn, 1) := by decide +kernel
theorem dX1_weighTorn_38 : decode cX1_weighTorn 38 = .ok (.aload_n 0, 1) := by decide +kernel
theorem dX1_weighTorn_39 : decode cX1_weighTorn 39 = .ok (.aload_n 1, 1) := by decide +kernel
theorem dX1_weighTorn_40 : decode cX1_weighTorn 40 = .ok (.invokevirtual 180, 3) := by decide +kernel
theorem dX1_weighTorn_43 : decode cX1_weighTorn 43 = .ok (.ireturn, 1) := by decide +kernel
theorem dX1_weighRare_0 : decode cX1_weighRare 0 = .ok (.aload_n 0, 1) := by decide +kernel
theorem dX1_weighRare_1 : decode cX1_weighRare 1 = .ok (.dup, 1) := by decide +kernel
theorem dX1_weighRare_2 : decode cX1_weighRare 2 = .ok (.getfield 48, 3) := by decide +kernel
theorem dX1_weighRare_5 : decode cX1_weighRare 5 = .ok (.ldc2_w 191, 3) := by decide +kernel
theorem dX1_weighRare_8 : decode cX1_weighRare 8 = .ok (.ladd, 1) := by decide +kernel
theorem dX1_weighRare_9 : decode cX1_weighRare 9 = .ok (.putfield 48, 3) := by decide +kernel
theorem dX1_weighRare_12 : decode cX1_weighRare 12 = .ok (.aload_n 0, 1) := by decide +kernel
theorem dX1_weighRare_13 : decode cX1_weighRare 13 = .ok (.getfield 30, 3) := by decide +kernel
theorem dX1_weighRare_16 : decode cX1_weighRare 16 = .ok (.aload_n 1, 1) := by decide +kernel
theorem dX1_weighRare_17 : decode cX1_weighRare 17 = .ok (.getfield 112, 3) := by decide +kernel
theorem dX1_weighRare_20 : decode cX1_weighRare 20 = .ok (.aaload, 1) := by decide +kernel
theorem dX1_weighRare_21 : decode cX1_weighRare 21 = .ok (.iconst 0, 1) := by decide +kernel
theorem dX1_weighRare_22 : decode cX1_weighRare 22 = .ok (.iaload, 1) := by decide +kernel
theorem dX1_weighRare_23 : decode cX1_weighRare 23 = .ok (.aload_n 0, 1) := by decide +kernel
theorem dX1_weighRare_24 : decode cX1_weighRare 24 = .ok (.getfield 22, 3) := by decide +kernel
theorem dX1_weighRare_27 : decode cX1_weighRare 27 = .ok (.iconst 2, 1) := by decide +kernel
theorem dX1_weighRare_28 : decode cX1_weighRare 28 = .ok (.iaload, 1) := by decide +kernel
theorem dX1_weighRare_29 : decode cX1_weighRare 29 = .ok (.if_icmp .ge 7, 3) := by decide +kernel
theorem dX1_weighRare_32 : decode cX1_weighRare 32 = .ok (.iconst 1, 1) := by decide +kernel
theorem dX1_weighRare_33 : decode cX1_weighRare 33 = .ok (.goto 8, 3) := by decide +kernel
theorem dX1_weighRare_36 : decode cX1_weighRare 36 = .ok (.aload_n 0, 1) := by decide +kernel
theorem dX1_weighRare_37 : decode cX1_weighRare 37 = .ok (.aload_n 1, 1) := by decide +kernel
theorem dX1_weighRare_38 : decode cX1_weighRare 38 = .ok (.invokevirtual 193, 3) := by decide +kernel
theorem dX1_weighRare_41 : decode cX1_weighRare 41 = .ok (.ireturn, 1) := by decide +kernel
theorem dX1_weighLong_0 : decode cX1_weighLong 0 = .ok (.aload_n 0, 1) := by decide +kernel
theorem dX1_weighLong_1 : decode cX1_weighLong 1 = .ok (.dup, 1) := by decide +kernel
theorem dX1_weighLong_2 : decode cX1_weighLong 2 = .ok (.getfield 48, 3) := by decide +kernel
theorem dX1_weighLong_5 : decode cX1_weighLong 5 = .ok (.ldc2_w 196, 3) := by decide +kernel
theorem dX1_weighLong_8 : decode cX1_weighLong 8 = .ok (.ladd, 1) := by decide +kernel
theorem dX1_weighLong_9 : decode cX1_weighLong 9 = .ok (.putfield 48, 3) := by decide +kernel
theorem dX1_weighLong_12 : decode cX1_weighLong 12 = .ok (.aload_n 1, 1) := by decide +kernel
theorem dX1_weighLong_13 : decode cX1_weighLong 13 = .ok (.getfield 115, 3) := by decide +kernel
theorem dX1_weighLong_16 : decode cX1_weighLong 16 = .ok (.aload_n 0, 1) := by decide +kernel
theorem dX1_weighLong_17 : decode cX1_weighLong 17 = .ok (.getfield 22, 3) := by decide +kernel
theorem dX1_weighLong_20 : decode cX1_weighLong 20 = .ok (.iconst 1, 1) := by decide +kernel
theorem dX1_weighLong_21 : decode cX1_weighLong 21 = .ok (.iaload, 1) := by decide +kernel
theorem dX1_weighLong_22 : decode cX1_weighLong 22 = .ok (.if_icmp .lt 7, 3) := by decide +kernel
theorem dX1_weighLong_25 : decode cX1_weighLong 25 = .ok (.iconst 1, 1) := by decide +kernel
theorem dX1_weighLong_26 : decode cX1_weighLong 26 = .ok (.goto 8, 3) := by decide +kernel
theorem dX1_weighLong_29 : decode cX1_weighLong 29 = .ok (.aload_n 0, 1) := by decide +kernel
theorem dX1_weighLong_30 : decode cX1_weighLong 30 = .ok (.aload_n 1, 1) := by decide +kernel
theorem dX1_weighLong_31 : decode cX1_weighLong 31 = .ok (.invokevirtual 198, 3) := by decide +kernel
theorem dX1_weighLong_34 : decode cX1_weighLong 34 = .ok (.ireturn, 1) := by decide +kernel
theorem dX1_weighFair_0 : decode cX1_weighFair 0 = .ok (.aload_n 0, 1) := by decide +kernel
theorem dX1_weighFair_1 : decode cX1_weighFair 1 = .ok (.dup, 1) := by decide +kernel
theorem dX1_weighFair_2 : decode cX1_weighFair 2 = .ok (.getfield 48, 3) := by decide +kernel
theorem dX1_weighFair_5 : decode cX1_weighFair 5 = .ok (.lconst 1, 1) := by decide +kernel
theorem dX1_weighFair_6 : decode cX1_weighFair 6 = .ok (.ladd, 1) := by decide +kernel
theorem dX1_weighFair_7 : decode cX1_weighFair 7 = .ok (.putfield 48, 3) := by decide +kernel
theorem dX1_weighFair_10 : decode cX1_weighFair 10 = .ok (.aload_n 0, 1) := by decide +kernel
theorem dX1_weighFair_11 : decode cX1_weighFair 11 = .ok (.getfield 30, 3) := by decide +kernel
theorem dX1_weighFair_14 : decode cX1_weighFair 14 = .ok (.aload_n 1, 1) := by decide +kernel
theorem dX1_weighFair_15 : decode cX1_weighFair 15 = .ok (.getfield 112, 3) := by decide +kernel
theorem dX1_weighFair_18 : decode cX1_weighFair 18 = .ok (.aaload, 1) := by decide +kernel
theorem dX1_weighFair_19 : decode cX1_weighFair 19 = .ok (.astore_n 2, 1) := by decide +kernel
theorem dX1_weighFair_20 : decode cX1_weighFair 20 = .ok (.aload_n 2, 1) := by decide +kernel
theorem dX1_weighFair_21 : decode cX1_weighFair 21 = .ok (.iconst 5, 1) := by decide +kernel
theorem dX1_weighFair_22 : decode cX1_weighFair 22 = .ok (.dup2, 1) := by decide +kernel
theorem dX1_weighFair_23 : decode cX1_weighFair 23 = .ok (.iaload, 1) := by decide +kernel
theorem dX1_weighFair_24 : decode cX1_weighFair 24 = .ok (.iconst 1, 1) := by decide +kernel
theorem dX1_weighFair_25 : decode cX1_weighFair 25 = .ok (.iadd, 1) := by decide +kernel
theorem dX1_weighFair_26 : decode cX1_weighFair 26 = .ok (.iastore, 1) := by decide +kernel
theorem dX1_weighFair_27 : decode cX1_weighFair 27 = .ok (.aload_n 2, 1) := by decide +kernel
theorem dX1_weighFair_28 : decode cX1_weighFair 28 = .ok (.iconst 5, 1) := by decide +kernel
theorem dX1_weighFair_29 : decode cX1_weighFair 29 = .ok (.iaload, 1) := by decide +kernel
theorem dX1_weighFair_30 : decode cX1_weighFair 30 = .ok (.aload_n 0, 1) := by decide +kernel
theorem dX1_weighFair_31 : decode cX1_weighFair 31 = .ok (.getfield 22, 3) := by decide +kernel
theorem dX1_weighFair_34 : decode cX1_weighFair 34 = .ok (.iconst 0, 1) := by decide +kernel
theorem dX1_weighFair_35 : decode cX1_weighFair 35 = .ok (.iaload, 1) := by decide +kernel
theorem dX1_weighFair_36 : decode cX1_weighFair 36 = .ok (.if_icmp .ge 5, 3) := by decide +kernel
theorem dX1_weighFair_39 : decode cX1_weighFair 39 = .ok (.iconst 0, 1) := by decide +kernel
theorem dX1_weighFair_40 : decode cX1_weighFair 40 = .ok (.ireturn, 1) := by decide +kernel
theorem dX1_weighFair_41 : decode cX1_weighFair 41 = .ok (.aload_n 2, 1) := by decide +kernel
theorem dX1_weighFair_42 : decode cX1_weighFair 42 = .ok (.iconst 5, 1) := by decide +kernel
theorem dX1_weighFair_43 : decode cX1_weighFair 43 = .ok (.iconst 0, 1) := by decide +kernel
theorem dX1_weighFair_44 : decode cX1_weighFair 44 = .ok (.iastore, 1) := by decide +kernel
theorem dX1_weighFair_45 : decode cX1_weighFair 45 = .ok (.aload_n 0, 1) := by decide +kernel
theorem dX1_weighFair_46 : decode cX1_weighFair 46 = .ok (.getfield 22, 3) := by decide +kernel
theorem dX1_weighFair_49 : decode cX1_weighFair 49 = .ok (.iconst 0, 1) := by decide +kernel
theorem dX1_weighFair_50 : decode cX1_weighFair 50 = .ok (.iaload, 1) := by decide +kernel
theorem dX1_weighFair_51 : decode cX1_weighFair 51 = .ok (.ireturn, 1) := by decide +kernel
theorem dX1_stepOf_0 : decode cX1_stepOf 0 = .ok (.iconst 0, 1) := by decide +kernel
theorem dX1_stepOf_1 : decode cX1_stepOf 1 = .ok (.istore_n 1, 1) := by decide +kernel
theorem dX1_stepOf_2 : decode cX1_stepOf 2 = .ok (.iload_n 1, 1) := by decide +kernel
theorem dX1_stepOf_3 : decode cX1_stepOf 3 = .ok (.bipush 13, 2) := by decide +kernel
theorem dX1_stepOf_5 : decode cX1_stepOf 5 = .ok (.if_icmp .ge 16, 3) := by decide +kernel
theorem dX1_stepOf_8 : decode cX1_stepOf 8 = .ok (.iload_n 0, 1) := by decide +kernel
theorem dX1_stepOf_9 : decode cX1_stepOf 9 = .ok (.iconst 1, 1) := by decide +kernel
theorem dX1_stepOf_10 : decode cX1_stepOf 10 = .ok (.iload_n 1, 1) := by decide +kernel
theorem dX1_stepOf_11 : decode cX1_stepOf 11 = .ok (.ishl, 1) := by decide +kernel
theorem dX1_stepOf_12 : decode cX1_stepOf 12 = .ok (.if_icmp .lt 9, 3) := by decide +kernel
theorem dX1_stepOf_15 : decode cX1_stepOf 15 = .ok (.iinc 1 1, 3) := by decide +kernel
theorem dX1_stepOf_18 : decode cX1_stepOf 18 = .ok (.goto (-16), 3) := by decide +kernel
theorem dX1_stepOf_21 : decode cX1_stepOf 21 = .ok (.iload_n 1, 1) := by decide +kernel
theorem dX1_stepOf_22 : decode cX1_stepOf 22 = .ok (.ireturn, 1) := by decide +kernel
theorem dX1_stepOfShare_0 : decode cX1_stepOfShare 0 = .ok (.iload_n 1, 1) := by decide +kernel
theorem dX1_stepOfShare_1 : decode cX1_stepOfShare 1 = .ok (.i2l, 1) := by decide +kernel
theorem dX1_stepOfShare_2 : decode cX1_stepOfShare 2 = .ok (.aload_n 0, 1) := by decide +kernel
theorem dX1_stepOfShare_3 : decode cX1_stepOfShare 3 = .ok (.getfield 25, 3) := by decide +kernel
theorem dX1_stepOfShare_6 : decode cX1_stepOfShare 6 = .ok (.bipush 10, 2) := by decide +kernel
theorem dX1_stepOfShare_8 : decode cX1_stepOfShare 8 = .ok (.iaload, 1) := by decide +kernel
theorem dX1_stepOfShare_9 : decode cX1_stepOfShare 9 = .ok (.i2l, 1) := by decide +kernel
theorem dX1_stepOfShare_10 : decode cX1_stepOfShare 10 = .ok (.lmul, 1) := by decide +kernel
theorem dX1_stepOfShare_11 : decode cX1_stepOfShare 11 = .ok (.lstore_n 3, 1) := by decide +kernel
theorem dX1_stepOfShare_12 : decode cX1_stepOfShare 12 = .ok (.aload_n 0, 1) := by decide +kernel
theorem dX1_stepOfShare_13 : decode cX1_stepOfShare 13 = .ok (.getfield 33, 3) := by decide +kernel
theorem dX1_stepOfShare_16 : decode cX1_stepOfShare 16 = .ok (.iconst 0, 1) := by decide +kernel
theorem dX1_stepOfShare_17 : decode cX1_stepOfShare 17 = .ok (.iaload, 1) := by decide +kernel
theorem dX1_stepOfShare_18 : decode cX1_stepOfShare 18 = .ok (.i2l, 1) := by decide +kernel
theorem dX1_stepOfShare_19 : decode cX1_stepOfShare 19 = .ok (.lstore 5, 2) := by decide +kernel
theorem dX1_stepOfShare_21 : decode cX1_stepOfShare 21 = .ok (.iconst 0, 1) := by decide +kernel
theorem dX1_stepOfShare_22 : decode cX1_stepOfShare 22 = .ok (.istore 7, 2) := by decide +kernel
theorem dX1_stepOfShare_24 : decode cX1_stepOfShare 24 = .ok (.iload 7, 2) := by decide +kernel
theorem dX1_stepOfShare_26 : decode cX1_stepOfShare 26 = .ok (.bipush 13, 2) := by decide +kernel
theorem dX1_stepOfShare_28 : decode cX1_stepOfShare 28 = .ok (.if_icmp .ge 32, 3) := by decide +kernel
theorem dX1_stepOfShare_31 : decode cX1_stepOfShare 31 = .ok (.lload 5, 2) := by decide +kernel
theorem dX1_stepOfShare_33 : decode cX1_stepOfShare 33 = .ok (.iload_n 2, 1) := by decide +kernel
theorem dX1_stepOfShare_34 : decode cX1_stepOfShare 34 = .ok (.i2l, 1) := by decide +kernel
theorem dX1_stepOfShare_35 : decode cX1_stepOfShare 35 = .ok (.lmul, 1) := by decide +kernel
theorem dX1_stepOfShare_36 : decode cX1_stepOfShare 36 = .ok (.lload_n 3, 1) := by decide +kernel
theorem dX1_stepOfShare_37 : decode cX1_stepOfShare 37 = .ok (.lcmp, 1) := by decide +kernel
theorem dX1_stepOfShare_38 : decode cX1_stepOfShare 38 = .ok (.ifCond .ge 22, 3) := by decide +kernel
theorem dX1_stepOfShare_41 : decode cX1_stepOfShare 41 = .ok (.iinc 7 1, 3) := by decide +kernel
theorem dX1_stepOfShare_44 : decode cX1_stepOfShare 44 = .ok (.lload 5, 2) := by decide +kernel
theorem dX1_stepOfShare_46 : decode cX1_stepOfShare 46 = .ok (.aload_n 0, 1) := by decide +kernel
theorem dX1_stepOfShare_47 : decode cX1_stepOfShare 47 = .ok (.getfield 33, 3) := by decide +kernel
theorem dX1_stepOfShare_50 : decode cX1_stepOfShare 50 = .ok (.iload 7, 2) := by decide +kernel
theorem dX1_stepOfShare_52 : decode cX1_stepOfShare 52 = .ok (.iaload, 1) := by decide +kernel
theorem dX1_stepOfShare_53 : decode cX1_stepOfShare 53 = .ok (.i2l, 1) := by decide +kernel
theorem dX1_stepOfShare_54 : decode cX1_stepOfShare 54 = .ok (.ladd, 1) := by decide +kernel
theorem dX1_stepOfShare_55 : decode cX1_stepOfShare 55 = .ok (.lstore 5, 2) := by decide +kernel
theorem dX1_stepOfShare_57 : decode cX1_stepOfShare 57 = .ok (.goto (-33), 3) := by decide +kernel
theorem dX1_stepOfShare_60 : decode cX1_stepOfShare 60 = .ok (.iload 7, 2) := by decide +kernel
theorem dX1_stepOfShare_62 : decode cX1_stepOfShare 62 = .ok (.ireturn, 1) := by decide +kernel

theorem dX0_init_0 : decode cX0_init 0 = .ok (.aload_n 0, 1) := by decide +kernel
theorem dX0_init_1 : decode cX0_init 1 = .ok (.invokespecial 3, 3) := by decide +kernel
theorem dX0_init_4 : decode cX0_init 4 = .ok (.aload_n 0, 1) := by decide +kernel
theorem dX0_init_5 : decode cX0_init 5 = .ok (.iconst 0, 1) := by decide +kernel
theorem dX0_init_6 : decode cX0_init 6 = .ok (.putfield 9, 3) := by decide +kernel
theorem dX0_init_9 : decode cX0_init 9 = .ok (.aload_n 0, 1) := by decide +kernel
theorem dX0_init_10 : decode cX0_init 10 = .ok (.iconst 0, 1) := by decide +kernel
theorem dX0_init_11 : decode cX0_init 11 = .ok (.putfield 15, 3) := by decide +kernel
theorem dX0_init_14 : decode cX0_init 14 = .ok (.aload_n 0, 1) := by decide +kernel
theorem dX0_init_15 : decode cX0_init 15 = .ok (.bipush (-9), 2) := by decide +kernel
theorem dX0_init_17 : decode cX0_init 17 = .ok (.putfield 18, 3) := by decide +kernel
theorem dX0_init_20 : decode cX0_init 20 = .ok (.aload_n 0, 1) := by decide +kernel
theorem dX0_init_21 : decode cX0_init 21 = .ok (.iconst 0, 1) := by decide +kernel
theorem dX0_init_22 : decode cX0_init 22 = .ok (.putfield 21, 3) := by decide +kernel
theorem dX0_init_25 : decode cX0_init 25 = .ok (.aload_n 0, 1) := by decide +kernel
theorem dX0_init_26 : decode cX0_init 26 = .ok (.iconst 0, 1) := by decide +kernel
theorem dX0_init_27 : decode cX0_init 27 = .ok (.putfield 24, 3) := by decide +kernel
theorem dX0_init_30 : decode cX0_init 30 = .ok (.aload_n 0, 1) := by decide +kernel
theorem dX0_init_31 : decode cX0_init 31 = .ok (.iconst 0, 1) := by decide +kernel
theorem dX0_init_32 : decode cX0_init 32 = .ok (.putfield 27, 3) := by decide +kernel
theorem dX0_init_35 : decode cX0_init 35 = .ok (.aload_n 0, 1) := by decide +kernel
theorem dX0_init_36 : decode cX0_init 36 = .ok (.iconst 0, 1) := by decide +kernel
theorem dX0_init_37 : decode cX0_init 37 = .ok (.putfield 31, 3) := by decide +kernel
theorem dX0_init_40 : decode cX0_init 40 = .ok (.aload_n 0, 1) := by decide +kernel
theorem dX0_init_41 : decode cX0_init 41 = .ok (.iconst 0, 1) := by decide +kernel
theorem dX0_init_42 : decode cX0_init 42 = .ok (.putfield 34, 3) := by decide +kernel
theorem dX0_init_45 : decode cX0_init 45 = .ok (.aload_n 0, 1) := by decide +kernel
theorem dX0_init_46 : decode cX0_init 46 = .ok (.iload_n 1, 1) := by decide +kernel
theorem dX0_init_47 : decode cX0_init 47 = .ok (.putfield 37, 3) := by decide +kernel
theorem dX0_init_50 : decode cX0_init 50 = .ok (.aload_n 0, 1) := by decide +kernel
theorem dX0_init_51 : decode cX0_init 51 = .ok (.iload_n 2, 1) := by decide +kernel
theorem dX0_init_52 : decode cX0_init 52 = .ok (.putfield 40, 3) := by decide +kernel
theorem dX0_init_55 : decode cX0_init 55 = .ok (.aload_n 0, 1) := by decide +kernel
theorem dX0_init_56 : decode cX0_init 56 = .ok (.iload_n 3, 1) := by decide +kernel
theorem dX0_init_57 : decode cX0_init 57 = .ok (.putfield 43, 3) := by decide +kernel
theorem dX0_init_60 : decode cX0_init 60 = .ok (.aload_n 0, 1) := by decide +kernel
theorem dX0_init_61 : decode cX0_init 61 = .ok (.iload 4, 2) := by decide +kernel
theorem dX0_init_63 : decode cX0_init 63 = .ok (.putfield 46, 3) := by decide +kernel
theorem dX0_init_66 : decode cX0_init 66 = .ok (.return_, 1) := by decide +kernel
theorem dX0_has_0 : decode cX0_has 0 = .ok (.aload_n 0, 1) := by decide +kernel
theorem dX0_has_1 : decode cX0_has 1 = .ok (.getfield 9, 3) := by decide +kernel
theorem dX0_has_4 : decode cX0_has 4 = .ok (.iconst 1, 1) := by decide +kernel
theorem dX0_has_5 : decode cX0_has 5 = .ok (.iload_n 1, 1) := by decide +kernel
theorem dX0_has_6 : decode cX0_has 6 = .ok (.ishl, 1) := by decide +kernel
theorem dX0_has_7 : decode cX0_has 7 = .ok (.iand, 1) := by decide +kernel
theorem dX0_has_8 : decode cX0_has 8 = .ok (.ifCond .eq 7, 3) := by decide +kernel
theorem dX0_has_11 : decode cX0_has 11 = .ok (.iconst 1, 1) := by decide +kernel
theorem dX0_has_12 : decode cX0_has 12 = .ok (.goto 4, 3) := by decide +kernel
theorem dX0_has_15 : decode cX0_has 15 = .ok (.iconst 0, 1) := by decide +kernel
theorem dX0_has_16 : decode cX0_has 16 = .ok (.ireturn, 1) := by decide +kernel
theorem dX0_add_0 : decode cX0_add 0 = .ok (.aload_n 0, 1) := by decide +kernel
theorem dX0_add_1 : decode cX0_add 1 = .ok (.dup, 1) := by decide +kernel
theorem dX0_add_2 : decode cX0_add 2 = .ok (.getfield 9, 3) := by decide +kernel
theorem dX0_add_5 : decode cX0_add 5 = .ok (.iconst 1, 1) := by decide +kernel
theorem dX0_add_6 : decode cX0_add 6 = .ok (.iload_n 1, 1) := by decide +kernel
theorem dX0_add_7 : decode cX0_add 7 = .ok (.ishl, 1) := by decide +kernel
theorem dX0_add_8 : decode cX0_add 8 = .ok (.ior, 1) := by decide +kernel
theorem dX0_add_9 : decode cX0_add 9 = .ok (.putfield 9, 3) := by decide +kernel
theorem dX0_add_12 : decode cX0_add 12 = .ok (.aload_n 0, 1) := by decide +kernel
theorem dX0_add_13 : decode cX0_add 13 = .ok (.dup, 1) := by decide +kernel
theorem dX0_add_14 : decode cX0_add 14 = .ok (.getfield 15, 3) := by decide +kernel
theorem dX0_add_17 : decode cX0_add 17 = .ok (.iload_n 2, 1) := by decide +kernel
theorem dX0_add_18 : decode cX0_add 18 = .ok (.iadd, 1) := by decide +kernel
theorem dX0_add_19 : decode cX0_add 19 = .ok (.putfield 15, 3) := by decide +kernel
theorem dX0_add_22 : decode cX0_add 22 = .ok (.return_, 1) := by decide +kernel
theorem dX0_contradicts_0 : decode cX0_contradicts 0 = .ok (.aload_n 0, 1) := by decide +kernel
theorem dX0_contradicts_1 : decode cX0_contradicts 1 = .ok (.getfield 18, 3) := by decide +kernel
theorem dX0_contradicts_4 : decode cX0_contradicts 4 = .ok (.bipush (-9), 2) := by decide +kernel
theorem dX0_contradicts_6 : decode cX0_contradicts 6 = .ok (.if_icmp .eq 15, 3) := by decide +kernel
theorem dX0_contradicts_9 : decode cX0_contradicts 9 = .ok (.iload_n 1, 1) := by decide +kernel
theorem dX0_contradicts_10 : decode cX0_contradicts 10 = .ok (.aload_n 0, 1) := by decide +kernel
theorem dX0_contradicts_11 : decode cX0_contradicts 11 = .ok (.getfield 18, 3) := by decide +kernel
theorem dX0_contradicts_14 : decode cX0_contradicts 14 = .ok (.if_icmp .le 7, 3) := by decide +kernel
theorem dX0_contradicts_17 : decode cX0_contradicts 17 = .ok (.iconst 1, 1) := by decide +kernel
theorem dX0_contradicts_18 : decode cX0_contradicts 18 = .ok (.goto 4, 3) := by decide +kernel
theorem dX0_contradicts_21 : decode cX0_contradicts 21 = .ok (.iconst 0, 1) := by decide +kernel
theorem dX0_contradicts_22 : decode cX0_contradicts 22 = .ok (.istore_n 3, 1) := by decide +kernel
theorem dX0_contradicts_23 : decode cX0_contradicts 23 = .ok (.iload_n 2, 1) := by decide +kernel
theorem dX0_contradicts_24 : decode cX0_contradicts 24 = .ok (.ifCond .eq 18, 3) := by decide +kernel
theorem dX0_contradicts_27 : decode cX0_contradicts 27 = .ok (.aload_n 0, 1) := by decide +kernel
theorem dX0_contradicts_28 : decode cX0_contradicts 28 = .ok (.getfield 9, 3) := by decide +kernel
theorem dX0_contradicts_31 : decode cX0_contradicts 31 = .ok (.iload_n 1, 1) := by decide +kernel
theorem dX0_contradicts_32 : decode cX0_contradicts 32 = .ok (.iconst 1, 1) := by decide +kernel
theorem dX0_contradicts_33 : decode cX0_contradicts 33 = .ok (.iadd, 1) := by decide +kernel
theorem dX0_contradicts_34 : decode cX0_contradicts 34 = .ok (.ishr, 1) := by decide +kernel
theorem dX0_contradicts_35 : decode cX0_contradicts 35 = .ok (.ifCond .eq 7, 3) := by decide +kernel
theorem dX0_contradicts_38 : decode cX0_contradicts 38 = .ok (.iconst 1, 1) := by decide +kernel
theorem dX0_contradicts_39 : decode cX0_contradicts 39 = .ok (.goto 4, 3) := by decide +kernel
theorem dX0_contradicts_42 : decode cX0_contradicts 42 = .ok (.iconst 0, 1) := by decide +kernel
theorem dX0_contradicts_43 : decode cX0_contradicts 43 = .ok (.istore 4, 2) := by decide +kernel
theorem dX0_contradicts_45 : decode cX0_contradicts 45 = .ok (.iload_n 2, 1) := by decide +kernel
theorem dX0_contradicts_46 : decode cX0_contradicts 46 = .ok (.ifCond .eq 24, 3) := by decide +kernel
theorem dX0_contradicts_49 : decode cX0_contradicts 49 = .ok (.aload_n 0, 1) := by decide +kernel
theorem dX0_contradicts_50 : decode cX0_contradicts 50 = .ok (.getfield 18, 3) := by decide +kernel
theorem dX0_contradicts_53 : decode cX0_contradicts 53 = .ok (.bipush (-9), 2) := by decide +kernel
theorem dX0_contradicts_55 : decode cX0_contradicts 55 = .ok (.if_icmp .eq 15, 3) := by decide +kernel
theorem dX0_contradicts_58 : decode cX0_contradicts 58 = .ok (.aload_n 0, 1) := by decide +kernel
theorem dX0_contradicts_59 : decode cX0_contradicts 59 = .ok (.getfield 18, 3) := by decide +kernel
theorem dX0_contradicts_62 : decode cX0_contradicts 62 = .ok (.iload_n 1, 1) := by decide +kernel
theorem dX0_contradicts_63 : decode cX0_contradicts 63 = .ok (.if_icmp .eq 7, 3) := by decide +kernel
theorem dX0_contradicts_66 : decode cX0_contradicts 66 = .ok (.iconst 1, 1) := by decide +kernel
theorem dX0_contradicts_67 : decode cX0_contradicts 67 = .ok (.goto 4, 3) := by decide +kernel
theorem dX0_contradicts_70 : decode cX0_contradicts 70 = .ok (.iconst 0, 1) := by decide +kernel
theorem dX0_contradicts_71 : decode cX0_contradicts 71 = .ok (.istore 5, 2) := by decide +kernel
theorem dX0_contradicts_73 : decode cX0_contradicts 73 = .ok (.iload_n 3, 1) := by decide +kernel
theorem dX0_contradicts_74 : decode cX0_contradicts 74 = .ok (.ifCond .ne 13, 3) := by decide +kernel
theorem dX0_contradicts_77 : decode cX0_contradicts 77 = .ok (.iload 4, 2) := by decide +kernel
theorem dX0_contradicts_79 : decode cX0_contradicts 79 = .ok (.ifCond .ne 8, 3) := by decide +kernel
theorem dX0_contradicts_82 : decode cX0_contradicts 82 = .ok (.iload 5, 2) := by decide +kernel
theorem dX0_contradicts_84 : decode cX0_contradicts 84 = .ok (.ifCond .eq 7, 3) := by decide +kernel
theorem dX0_contradicts_87 : decode cX0_contradicts 87 = .ok (.iconst 1, 1) := by decide +kernel
theorem dX0_contradicts_88 : decode cX0_contradicts 88 = .ok (.goto 4, 3) := by decide +kernel
theorem dX0_contradicts_91 : decode cX0_contradicts 91 = .ok (.iconst 0, 1) := by decide +kernel
theorem dX0_contradicts_92 : decode cX0_contradicts 92 = .ok (.ireturn, 1) := by decide +kernel
theorem dX0_isWhole_0 : decode cX0_isWhole 0 = .ok (.aload_n 0, 1) := by decide +kernel
theorem dX0_isWhole_1 : decode cX0_isWhole 1 = .ok (.getfield 18, 3) := by decide +kernel
theorem dX0_isWhole_4 : decode cX0_isWhole 4 = .ok (.bipush (-9), 2) := by decide +kernel
theorem dX0_isWhole_6 : decode cX0_isWhole 6 = .ok (.if_icmp .ne 5, 3) := by decide +kernel
theorem dX0_isWhole_9 : decode cX0_isWhole 9 = .ok (.iconst 0, 1) := by decide +kernel
theorem dX0_isWhole_10 : decode cX0_isWhole 10 = .ok (.ireturn, 1) := by decide +kernel
theorem dX0_isWhole_11 : decode cX0_isWhole 11 = .ok (.iconst 2, 1) := by decide +kernel
theorem dX0_isWhole_12 : decode cX0_isWhole 12 = .ok (.aload_n 0, 1) := by decide +kernel
theorem dX0_isWhole_13 : decode cX0_isWhole 13 = .ok (.getfield 18, 3) := by decide +kernel
theorem dX0_isWhole_16 : decode cX0_isWhole 16 = .ok (.ishl, 1) := by decide +kernel
theorem dX0_isWhole_17 : decode cX0_isWhole 17 = .ok (.iconst 1, 1) := by decide +kernel
theorem dX0_isWhole_18 : decode cX0_isWhole 18 = .ok (.isub, 1) := by decide +kernel
theorem dX0_isWhole_19 : decode cX0_isWhole 19 = .ok (.istore_n 1, 1) := by decide +kernel
theorem dX0_isWhole_20 : decode cX0_isWhole 20 = .ok (.aload_n 0, 1) := by decide +kernel
theorem dX0_isWhole_21 : decode cX0_isWhole 21 = .ok (.getfield 9, 3) := by decide +kernel
theorem dX0_isWhole_24 : decode cX0_isWhole 24 = .ok (.iload_n 1, 1) := by decide +kernel
theorem dX0_isWhole_25 : decode cX0_isWhole 25 = .ok (.iand, 1) := by decide +kernel
theorem dX0_isWhole_26 : decode cX0_isWhole 26 = .ok (.iload_n 1, 1) := by decide +kernel
theorem dX0_isWhole_27 : decode cX0_isWhole 27 = .ok (.if_icmp .ne 7, 3) := by decide +kernel
theorem dX0_isWhole_30 : decode cX0_isWhole 30 = .ok (.iconst 1, 1) := by decide +kernel
theorem dX0_isWhole_31 : decode cX0_isWhole 31 = .ok (.goto 4, 3) := by decide +kernel
theorem dX0_isWhole_34 : decode cX0_isWhole 34 = .ok (.iconst 0, 1) := by decide +kernel
theorem dX0_isWhole_35 : decode cX0_isWhole 35 = .ok (.ireturn, 1) := by decide +kernel
theorem dX1_init_0 : decode cX1_init 0 = .ok (.aload_n 0, 1) := by decide +kernel
theorem dX1_init_1 : decode cX1_init 1 = .ok (.invokespecial 1, 3) := by decide +kernel
theorem dX1_init_4 : decode cX1_init 4 = .ok (.aload_n 0, 1) := by decide +kernel
theorem dX1_init_5 : decode cX1_init 5 = .ok (.iconst 4, 1) := by decide +kernel
theorem dX1_init_6 : decode cX1_init 6 = .ok (.newarray .boolean, 2) := by decide +kernel
theorem dX1_init_8 : decode cX1_init 8 = .ok (.putfield 9, 3) := by decide +kernel
theorem dX1_init_11 : decode cX1_init 11 = .ok (.aload_n 0, 1) := by decide +kernel
theorem dX1_init_12 : decode cX1_init 12 = .ok (.getstatic 13, 3) := by decide +kernel
theorem dX1_init_15 : decode cX1_init 15 = .ok (.invokevirtual 17, 3) := by decide +kernel
theorem dX1_init_18 : decode cX1_init 18 = .ok (.checkcast 18, 3) := by decide +kernel
theorem dX1_init_21 : decode cX1_init 21 = .ok (.putfield 22, 3) := by decide +kernel
theorem dX1_init_24 : decode cX1_init 24 = .ok (.aload_n 0, 1) := by decide +kernel
theorem dX1_init_25 : decode cX1_init 25 = .ok (.bipush 13, 2) := by decide +kernel
theorem dX1_init_27 : decode cX1_init 27 = .ok (.newarray .int, 2) := by decide +kernel
theorem dX1_init_29 : decode cX1_init 29 = .ok (.putfield 25, 3) := by decide +kernel
theorem dX1_init_32 : decode cX1_init 32 = .ok (.aload_n 0, 1) := by decide +kernel
theorem dX1_init_33 : decode cX1_init 33 = .ok (.iconst 5, 1) := by decide +kernel
theorem dX1_init_34 : decode cX1_init 34 = .ok (.bipush 7, 2) := by decide +kernel
theorem dX1_init_36 : decode cX1_init 36 = .ok (.multianewarray 28 2, 4) := by decide +kernel
theorem dX1_init_40 : decode cX1_init 40 = .ok (.putfield 30, 3) := by decide +kernel
theorem dX1_init_43 : decode cX1_init 43 = .ok (.aload_n 0, 1) := by decide +kernel
theorem dX1_init_44 : decode cX1_init 44 = .ok (.bipush 14, 2) := by decide +kernel
theorem dX1_init_46 : decode cX1_init 46 = .ok (.newarray .int, 2) := by decide +kernel
theorem dX1_init_48 : decode cX1_init 48 = .ok (.putfield 33, 3) := by decide +kernel
theorem dX1_init_51 : decode cX1_init 51 = .ok (.aload_n 0, 1) := by decide +kernel
theorem dX1_init_52 : decode cX1_init 52 = .ok (.bipush 100, 2) := by decide +kernel
theorem dX1_init_54 : decode cX1_init 54 = .ok (.anewarray 36, 3) := by decide +kernel
theorem dX1_init_57 : decode cX1_init 57 = .ok (.putfield 38, 3) := by decide +kernel
theorem dX1_init_60 : decode cX1_init 60 = .ok (.aload_n 0, 1) := by decide +kernel
theorem dX1_init_61 : decode cX1_init 61 = .ok (.bipush 100, 2) := by decide +kernel
theorem dX1_init_63 : decode cX1_init 63 = .ok (.anewarray 36, 3) := by decide +kernel
theorem dX1_init_66 : decode cX1_init 66 = .ok (.putfield 42, 3) := by decide +kernel
theorem dX1_init_69 : decode cX1_init 69 = .ok (.aload_n 0, 1) := by decide +kernel
theorem dX1_init_70 : decode cX1_init 70 = .ok (.bipush 20, 2) := by decide +kernel
theorem dX1_init_72 : decode cX1_init 72 = .ok (.anewarray 36, 3) := by decide +kernel
theorem dX1_init_75 : decode cX1_init 75 = .ok (.putfield 45, 3) := by decide +kernel
theorem dX1_init_78 : decode cX1_init 78 = .ok (.aload_n 0, 1) := by decide +kernel
theorem dX1_init_79 : decode cX1_init 79 = .ok (.lconst 0, 1) := by decide +kernel
theorem dX1_init_80 : decode cX1_init 80 = .ok (.putfield 48, 3) := by decide +kernel
theorem dX1_init_83 : decode cX1_init 83 = .ok (.iconst 0, 1) := by decide +kernel
theorem dX1_init_84 : decode cX1_init 84 = .ok (.istore_n 1, 1) := by decide +kernel
theorem dX1_init_85 : decode cX1_init 85 = .ok (.iload_n 1, 1) := by decide +kernel
theorem dX1_init_86 : decode cX1_init 86 = .ok (.iconst 4, 1) := by decide +kernel
theorem dX1_init_87 : decode cX1_init 87 = .ok (.if_icmp .ge 16, 3) := by decide +kernel
theorem dX1_init_90 : decode cX1_init 90 = .ok (.aload_n 0, 1) := by decide +kernel
theorem dX1_init_91 : decode cX1_init 91 = .ok (.getfield 9, 3) := by decide +kernel
theorem dX1_init_94 : decode cX1_init 94 = .ok (.iload_n 1, 1) := by decide +kernel
theorem dX1_init_95 : decode cX1_init 95 = .ok (.iconst 1, 1) := by decide +kernel
theorem dX1_init_96 : decode cX1_init 96 = .ok (.bastore, 1) := by decide +kernel
theorem dX1_init_97 : decode cX1_init 97 = .ok (.iinc 1 1, 3) := by decide +kernel
theorem dX1_init_100 : decode cX1_init 100 = .ok (.goto (-15), 3) := by decide +kernel
theorem dX1_init_103 : decode cX1_init 103 = .ok (.aload_n 0, 1) := by decide +kernel
theorem dX1_init_104 : decode cX1_init 104 = .ok (.getfield 25, 3) := by decide +kernel
theorem dX1_init_107 : decode cX1_init 107 = .ok (.bipush 12, 2) := by decide +kernel
theorem dX1_init_109 : decode cX1_init 109 = .ok (.iconst 4, 1) := by decide +kernel
theorem dX1_init_110 : decode cX1_init 110 = .ok (.iastore, 1) := by decide +kernel
theorem dX1_init_111 : decode cX1_init 111 = .ok (.return_, 1) := by decide +kernel
theorem dX1_keeper_0 : decode cX1_keeper 0 = .ok (.iload_n 1, 1) := by decide +kernel
theorem dX1_keeper_1 : decode cX1_keeper 1 = .ok (.iconst 4, 1) := by decide +kernel
theorem dX1_keeper_2 : decode cX1_keeper 2 = .ok (.invokestatic 52, 3) := by decide +kernel
theorem dX1_keeper_5 : decode cX1_keeper 5 = .ok (.ifCond .ne 5, 3) := by decide +kernel
theorem dX1_keeper_8 : decode cX1_keeper 8 = .ok (.iconst (-1), 1) := by decide +kernel
theorem dX1_keeper_9 : decode cX1_keeper 9 = .ok (.ireturn, 1) := by decide +kernel
theorem dX1_keeper_10 : decode cX1_keeper 10 = .ok (.aload_n 0, 1) := by decide +kernel
theorem dX1_keeper_11 : decode cX1_keeper 11 = .ok (.getfield 9, 3) := by decide +kernel
theorem dX1_keeper_14 : decode cX1_keeper 14 = .ok (.iload_n 1, 1) := by decide +kernel
theorem dX1_keeper_15 : decode cX1_keeper 15 = .ok (.baload, 1) := by decide +kernel
theorem dX1_keeper_16 : decode cX1_keeper 16 = .ok (.iload_n 2, 1) := by decide +kernel
theorem dX1_keeper_17 : decode cX1_keeper 17 = .ok (.if_icmp .ne 5, 3) := by decide +kernel
theorem dX1_keeper_20 : decode cX1_keeper 20 = .ok (.iconst 0, 1) := by decide +kernel
theorem dX1_keeper_21 : decode cX1_keeper 21 = .ok (.ireturn, 1) := by decide +kernel
theorem dX1_keeper_22 : decode cX1_keeper 22 = .ok (.aload_n 0, 1) := by decide +kernel
theorem dX1_keeper_23 : decode cX1_keeper 23 = .ok (.getfield 9, 3) := by decide +kernel
theorem dX1_keeper_26 : decode cX1_keeper 26 = .ok (.iload_n 1, 1) := by decide +kernel
theorem dX1_keeper_27 : decode cX1_keeper 27 = .ok (.iload_n 2, 1) := by decide +kernel
theorem dX1_keeper_28 : decode cX1_keeper 28 = .ok (.bastore, 1) := by decide +kernel
theorem dX1_keeper_29 : decode cX1_keeper 29 = .ok (.aload_n 0, 1) := by decide +kernel
theorem dX1_keeper_30 : decode cX1_keeper 30 = .ok (.getfield 25, 3) := by decide +kernel
theorem dX1_keeper_33 : decode cX1_keeper 33 = .ok (.bipush 12, 2) := by decide +kernel
theorem dX1_keeper_35 : decode cX1_keeper 35 = .ok (.dup2, 1) := by decide +kernel
theorem dX1_keeper_36 : decode cX1_keeper 36 = .ok (.iaload, 1) := by decide +kernel
theorem dX1_keeper_37 : decode cX1_keeper 37 = .ok (.iload_n 2, 1) := by decide +kernel
theorem dX1_keeper_38 : decode cX1_keeper 38 = .ok (.ifCond .eq 7, 3) := by decide +kernel
theorem dX1_keeper_41 : decode cX1_keeper 41 = .ok (.iconst 1, 1) := by decide +kernel
theorem dX1_keeper_42 : decode cX1_keeper 42 = .ok (.goto 4, 3) := by decide +kernel
theorem dX1_keeper_45 : decode cX1_keeper 45 = .ok (.iconst (-1), 1) := by decide +kernel
theorem dX1_keeper_46 : decode cX1_keeper 46 = .ok (.iadd, 1) := by decide +kernel
theorem dX1_keeper_47 : decode cX1_keeper 47 = .ok (.iastore, 1) := by decide +kernel
theorem dX1_keeper_48 : decode cX1_keeper 48 = .ok (.iload_n 2, 1) := by decide +kernel
theorem dX1_keeper_49 : decode cX1_keeper 49 = .ok (.ifCond .ne 8, 3) := by decide +kernel
theorem dX1_keeper_52 : decode cX1_keeper 52 = .ok (.aload_n 0, 1) := by decide +kernel
theorem dX1_keeper_53 : decode cX1_keeper 53 = .ok (.iload_n 1, 1) := by decide +kernel
theorem dX1_keeper_54 : decode cX1_keeper 54 = .ok (.invokevirtual 56, 3) := by decide +kernel
theorem dX1_keeper_57 : decode cX1_keeper 57 = .ok (.aload_n 0, 1) := by decide +kernel
theorem dX1_keeper_58 : decode cX1_keeper 58 = .ok (.invokevirtual 60, 3) := by decide +kernel
theorem dX1_keeper_61 : decode cX1_keeper 61 = .ok (.iconst 1, 1) := by decide +kernel
theorem dX1_keeper_62 : decode cX1_keeper 62 = .ok (.ireturn, 1) := by decide +kernel
theorem dX1_home_0 : decode cX1_home 0 = .ok (.iload_n 1, 1) := by decide +kernel
theorem dX1_home_1 : decode cX1_home 1 = .ok (.bipush 100, 2) := by decide +kernel
theorem dX1_home_3 : decode cX1_home 3 = .ok (.invokestatic 52, 3) := by decide +kernel
theorem dX1_home_6 : decode cX1_home 6 = .ok (.ifCond .eq 11, 3) := by decide +kernel
theorem dX1_home_9 : decode cX1_home 9 = .ok (.aload_n 0, 1) := by decide +kernel
theorem dX1_home_10 : decode cX1_home 10 = .ok (.iload_n 1, 1) := by decide +kernel
theorem dX1_home_11 : decode cX1_home 11 = .ok (.invokevirtual 63, 3) := by decide +kernel
theorem dX1_home_14 : decode cX1_home 14 = .ok (.goto 4, 3) := by decide +kernel
theorem dX1_home_17 : decode cX1_home 17 = .ok (.iconst (-1), 1) := by decide +kernel
theorem dX1_home_18 : decode cX1_home 18 = .ok (.ireturn, 1) := by decide +kernel
theorem dX1_set_0 : decode cX1_set 0 = .ok (.iload_n 1, 1) := by decide +kernel
theorem dX1_set_1 : decode cX1_set 1 = .ok (.bipush 6, 2) := by decide +kernel
theorem dX1_set_3 : decode cX1_set 3 = .ok (.invokestatic 52, 3) := by decide +kernel
theorem dX1_set_6 : decode cX1_set 6 = .ok (.ifCond .eq 20, 3) := by decide +kernel
theorem dX1_set_9 : decode cX1_set 9 = .ok (.iload_n 2, 1) := by decide +kernel
theorem dX1_set_10 : decode cX1_set 10 = .ok (.getstatic 67, 3) := by decide +kernel
theorem dX1_set_13 : decode cX1_set 13 = .ok (.iload_n 1, 1) := by decide +kernel
theorem dX1_set_14 : decode cX1_set 14 = .ok (.iaload, 1) := by decide +kernel
theorem dX1_set_15 : decode cX1_set 15 = .ok (.getstatic 70, 3) := by decide +kernel
theorem dX1_set_18 : decode cX1_set 18 = .ok (.iload_n 1, 1) := by decide +kernel
theorem dX1_set_19 : decode cX1_set 19 = .ok (.iaload, 1) := by decide +kernel
theorem dX1_set_20 : decode cX1_set 20 = .ok (.invokestatic 73, 3) := by decide +kernel
theorem dX1_set_23 : decode cX1_set 23 = .ok (.ifCond .ne 5, 3) := by decide +kernel
theorem dX1_set_26 : decode cX1_set 26 = .ok (.iconst (-1), 1) := by decide +kernel
theorem dX1_set_27 : decode cX1_set 27 = .ok (.ireturn, 1) := by decide +kernel
theorem dX1_set_28 : decode cX1_set 28 = .ok (.aload_n 0, 1) := by decide +kernel
theorem dX1_set_29 : decode cX1_set 29 = .ok (.getfield 22, 3) := by decide +kernel
theorem dX1_set_32 : decode cX1_set 32 = .ok (.iload_n 1, 1) := by decide +kernel
theorem dX1_set_33 : decode cX1_set 33 = .ok (.iaload, 1) := by decide +kernel
theorem dX1_set_34 : decode cX1_set 34 = .ok (.istore_n 3, 1) := by decide +kernel
theorem dX1_set_35 : decode cX1_set 35 = .ok (.iload_n 1, 1) := by decide +kernel
theorem dX1_set_36 : decode cX1_set 36 = .ok (.ifCond .ne 12, 3) := by decide +kernel
theorem dX1_set_39 : decode cX1_set 39 = .ok (.iload_n 2, 1) := by decide +kernel
theorem dX1_set_40 : decode cX1_set 40 = .ok (.iload_n 3, 1) := by decide +kernel
theorem dX1_set_41 : decode cX1_set 41 = .ok (.if_icmp .eq 7, 3) := by decide +kernel
theorem dX1_set_44 : decode cX1_set 44 = .ok (.aload_n 0, 1) := by decide +kernel
theorem dX1_set_45 : decode cX1_set 45 = .ok (.invokevirtual 77, 3) := by decide +kernel
theorem dX1_set_48 : decode cX1_set 48 = .ok (.aload_n 0, 1) := by decide +kernel
theorem dX1_set_49 : decode cX1_set 49 = .ok (.getfield 22, 3) := by decide +kernel
theorem dX1_set_52 : decode cX1_set 52 = .ok (.iload_n 1, 1) := by decide +kernel
theorem dX1_set_53 : decode cX1_set 53 = .ok (.iload_n 2, 1) := by decide +kernel
theorem dX1_set_54 : decode cX1_set 54 = .ok (.iastore, 1) := by decide +kernel
theorem dX1_set_55 : decode cX1_set 55 = .ok (.iload_n 3, 1) := by decide +kernel
theorem dX1_set_56 : decode cX1_set 56 = .ok (.ireturn, 1) := by decide +kernel
theorem dX1_piece_0 : decode cX1_piece 0 = .ok (.iload_n 1, 1) := by decide +kernel
theorem dX1_piece_1 : decode cX1_piece 1 = .ok (.bipush 100, 2) := by decide +kernel
theorem dX1_piece_3 : decode cX1_piece 3 = .ok (.invokestatic 52, 3) := by decide +kernel
theorem dX1_piece_6 : decode cX1_piece 6 = .ok (.ifCond .eq 33, 3) := by decide +kernel
theorem dX1_piece_9 : decode cX1_piece 9 = .ok (.iload_n 2, 1) := by decide +kernel
theorem dX1_piece_10 : decode cX1_piece 10 = .ok (.bipush 8, 2) := by decide +kernel
theorem dX1_piece_12 : decode cX1_piece 12 = .ok (.invokestatic 52, 3) := by decide +kernel
theorem dX1_piece_15 : decode cX1_piece 15 = .ok (.ifCond .eq 24, 3) := by decide +kernel
theorem dX1_piece_18 : decode cX1_piece 18 = .ok (.iload 4, 2) := by decide +kernel
theorem dX1_piece_20 : decode cX1_piece 20 = .ok (.iconst 5, 1) := by decide +kernel
theorem dX1_piece_21 : decode cX1_piece 21 = .ok (.invokestatic 52, 3) := by decide +kernel
theorem dX1_piece_24 : decode cX1_piece 24 = .ok (.ifCond .eq 15, 3) := by decide +kernel
theorem dX1_piece_27 : decode cX1_piece 27 = .ok (.iload 5, 2) := by decide +kernel
theorem dX1_piece_29 : decode cX1_piece 29 = .ok (.iconst 1, 1) := by decide +kernel
theorem dX1_piece_30 : decode cX1_piece 30 = .ok (.sipush 1000, 3) := by decide +kernel
theorem dX1_piece_33 : decode cX1_piece 33 = .ok (.invokestatic 73, 3) := by decide +kernel
theorem dX1_piece_36 : decode cX1_piece 36 = .ok (.ifCond .ne 5, 3) := by decide +kernel
theorem dX1_piece_39 : decode cX1_piece 39 = .ok (.iconst (-1), 1) := by decide +kernel
theorem dX1_piece_40 : decode cX1_piece 40 = .ok (.ireturn, 1) := by decide +kernel
theorem dX1_piece_41 : decode cX1_piece 41 = .ok (.aload_n 0, 1) := by decide +kernel
theorem dX1_piece_42 : decode cX1_piece 42 = .ok (.iload_n 1, 1) := by decide +kernel
theorem dX1_piece_43 : decode cX1_piece 43 = .ok (.invokevirtual 63, 3) := by decide +kernel
theorem dX1_piece_46 : decode cX1_piece 46 = .ok (.istore 6, 2) := by decide +kernel
theorem dX1_piece_48 : decode cX1_piece 48 = .ok (.iload 6, 2) := by decide +kernel
theorem dX1_piece_50 : decode cX1_piece 50 = .ok (.bipush (-9), 2) := by decide +kernel
theorem dX1_piece_52 : decode cX1_piece 52 = .ok (.if_icmp .ne 12, 3) := by decide +kernel
theorem dX1_piece_55 : decode cX1_piece 55 = .ok (.aload_n 0, 1) := by decide +kernel
theorem dX1_piece_56 : decode cX1_piece 56 = .ok (.bipush 9, 2) := by decide +kernel
theorem dX1_piece_58 : decode cX1_piece 58 = .ok (.bipush 7, 2) := by decide +kernel
theorem dX1_piece_60 : decode cX1_piece 60 = .ok (.invokevirtual 80, 3) := by decide +kernel
theorem dX1_piece_63 : decode cX1_piece 63 = .ok (.ireturn, 1) := by decide +kernel
theorem dX1_piece_64 : decode cX1_piece 64 = .ok (.aload_n 0, 1) := by decide +kernel
theorem dX1_piece_65 : decode cX1_piece 65 = .ok (.getfield 38, 3) := by decide +kernel
theorem dX1_piece_68 : decode cX1_piece 68 = .ok (.iload_n 1, 1) := by decide +kernel
theorem dX1_piece_69 : decode cX1_piece 69 = .ok (.aaload, 1) := by decide +kernel
theorem dX1_piece_70 : decode cX1_piece 70 = .ok (.astore 7, 2) := by decide +kernel
theorem dX1_piece_72 : decode cX1_piece 72 = .ok (.aload 7, 2) := by decide +kernel
theorem dX1_piece_74 : decode cX1_piece 74 = .ok (.ifnull 14, 3) := by decide +kernel
theorem dX1_piece_77 : decode cX1_piece 77 = .ok (.aload_n 0, 1) := by decide +kernel
theorem dX1_piece_78 : decode cX1_piece 78 = .ok (.aload 7, 2) := by decide +kernel
theorem dX1_piece_80 : decode cX1_piece 80 = .ok (.iload_n 2, 1) := by decide +kernel
theorem dX1_piece_81 : decode cX1_piece 81 = .ok (.iload_n 3, 1) := by decide +kernel
theorem dX1_piece_82 : decode cX1_piece 82 = .ok (.iload 5, 2) := by decide +kernel
theorem dX1_piece_84 : decode cX1_piece 84 = .ok (.invokevirtual 84, 3) := by decide +kernel
theorem dX1_piece_87 : decode cX1_piece 87 = .ok (.ireturn, 1) := by decide +kernel
theorem dX1_piece_88 : decode cX1_piece 88 = .ok (.aload_n 0, 1) := by decide +kernel
theorem dX1_piece_89 : decode cX1_piece 89 = .ok (.iload_n 1, 1) := by decide +kernel
theorem dX1_piece_90 : decode cX1_piece 90 = .ok (.invokevirtual 88, 3) := by decide +kernel
theorem dX1_piece_93 : decode cX1_piece 93 = .ok (.astore 8, 2) := by decide +kernel
theorem dX1_piece_95 : decode cX1_piece 95 = .ok (.aload 8, 2) := by decide +kernel
theorem dX1_piece_97 : decode cX1_piece 97 = .ok (.ifnull 13, 3) := by decide +kernel
theorem dX1_piece_100 : decode cX1_piece 100 = .ok (.aload_n 0, 1) := by decide +kernel
theorem dX1_piece_101 : decode cX1_piece 101 = .ok (.aload 8, 2) := by decide +kernel
theorem dX1_piece_103 : decode cX1_piece 103 = .ok (.iload_n 2, 1) := by decide +kernel
theorem dX1_piece_104 : decode cX1_piece 104 = .ok (.iload 5, 2) := by decide +kernel
theorem dX1_piece_106 : decode cX1_piece 106 = .ok (.invokevirtual 92, 3) := by decide +kernel
theorem dX1_piece_109 : decode cX1_piece 109 = .ok (.ireturn, 1) := by decide +kernel
theorem dX1_piece_110 : decode cX1_piece 110 = .ok (.aload_n 0, 1) := by decide +kernel
theorem dX1_piece_111 : decode cX1_piece 111 = .ok (.getfield 25, 3) := by decide +kernel
theorem dX1_piece_114 : decode cX1_piece 114 = .ok (.iconst 1, 1) := by decide +kernel
theorem dX1_piece_115 : decode cX1_piece 115 = .ok (.iaload, 1) := by decide +kernel
theorem dX1_piece_116 : decode cX1_piece 116 = .ok (.bipush 24, 2) := by decide +kernel
theorem dX1_piece_118 : decode cX1_piece 118 = .ok (.if_icmp .lt 12, 3) := by decide +kernel
theorem dX1_piece_121 : decode cX1_piece 121 = .ok (.aload_n 0, 1) := by decide +kernel
theorem dX1_piece_122 : decode cX1_piece 122 = .ok (.bipush 9, 2) := by decide +kernel
theorem dX1_piece_124 : decode cX1_piece 124 = .ok (.bipush 7, 2) := by decide +kernel
theorem dX1_piece_126 : decode cX1_piece 126 = .ok (.invokevirtual 80, 3) := by decide +kernel
theorem dX1_piece_129 : decode cX1_piece 129 = .ok (.ireturn, 1) := by decide +kernel
theorem dX1_piece_130 : decode cX1_piece 130 = .ok (.new 36, 3) := by decide +kernel
theorem dX1_piece_133 : decode cX1_piece 133 = .ok (.dup, 1) := by decide +kernel
theorem dX1_piece_134 : decode cX1_piece 134 = .ok (.iload_n 1, 1) := by decide +kernel
theorem dX1_piece_135 : decode cX1_piece 135 = .ok (.iload 4, 2) := by decide +kernel
theorem dX1_piece_137 : decode cX1_piece 137 = .ok (.iload 6, 2) := by decide +kernel
theorem dX1_piece_139 : decode cX1_piece 139 = .ok (.aload_n 0, 1) := by decide +kernel
theorem dX1_piece_140 : decode cX1_piece 140 = .ok (.getfield 25, 3) := by decide +kernel
theorem dX1_piece_143 : decode cX1_piece 143 = .ok (.iconst 0, 1) := by decide +kernel
theorem dX1_piece_144 : decode cX1_piece 144 = .ok (.iaload, 1) := by decide +kernel
theorem dX1_piece_145 : decode cX1_piece 145 = .ok (.invokespecial 96, 3) := by decide +kernel
theorem dX1_piece_148 : decode cX1_piece 148 = .ok (.astore 9, 2) := by decide +kernel
theorem dX1_piece_150 : decode cX1_piece 150 = .ok (.aload_n 0, 1) := by decide +kernel
theorem dX1_piece_151 : decode cX1_piece 151 = .ok (.getfield 38, 3) := by decide +kernel
theorem dX1_piece_154 : decode cX1_piece 154 = .ok (.iload_n 1, 1) := by decide +kernel
theorem dX1_piece_155 : decode cX1_piece 155 = .ok (.aload 9, 2) := by decide +kernel
theorem dX1_piece_157 : decode cX1_piece 157 = .ok (.aastore, 1) := by decide +kernel
theorem dX1_piece_158 : decode cX1_piece 158 = .ok (.aload_n 0, 1) := by decide +kernel
theorem dX1_piece_159 : decode cX1_piece 159 = .ok (.getfield 25, 3) := by decide +kernel
theorem dX1_piece_162 : decode cX1_piece 162 = .ok (.iconst 1, 1) := by decide +kernel
theorem dX1_piece_163 : decode cX1_piece 163 = .ok (.dup2, 1) := by decide +kernel
theorem dX1_piece_164 : decode cX1_piece 164 = .ok (.iaload, 1) := by decide +kernel
theorem dX1_piece_165 : decode cX1_piece 165 = .ok (.iconst 1, 1) := by decide +kernel
theorem dX1_piece_166 : decode cX1_piece 166 = .ok (.iadd, 1) := by decide +kernel
theorem dX1_piece_167 : decode cX1_piece 167 = .ok (.iastore, 1) := by decide +kernel
theorem dX1_piece_168 : decode cX1_piece 168 = .ok (.aload_n 0, 1) := by decide +kernel
theorem dX1_piece_169 : decode cX1_piece 169 = .ok (.aload 9, 2) := by decide +kernel
theorem dX1_piece_171 : decode cX1_piece 171 = .ok (.iload_n 2, 1) := by decide +kernel
theorem dX1_piece_172 : decode cX1_piece 172 = .ok (.iload_n 3, 1) := by decide +kernel
theorem dX1_piece_173 : decode cX1_piece 173 = .ok (.iload 5, 2) := by decide +kernel
theorem dX1_piece_175 : decode cX1_piece 175 = .ok (.invokevirtual 99, 3) := by decide +kernel
theorem dX1_piece_178 : decode cX1_piece 178 = .ok (.ireturn, 1) := by decide +kernel
theorem dX1_tick_0 : decode cX1_tick 0 = .ok (.iload_n 1, 1) := by decide +kernel
theorem dX1_tick_1 : decode cX1_tick 1 = .ok (.iconst 1, 1) := by decide +kernel
theorem dX1_tick_2 : decode cX1_tick 2 = .ok (.bipush 60, 2) := by decide +kernel
theorem dX1_tick_4 : decode cX1_tick 4 = .ok (.invokestatic 73, 3) := by decide +kernel
theorem dX1_tick_7 : decode cX1_tick 7 = .ok (.ifCond .ne 5, 3) := by decide +kernel
theorem dX1_tick_10 : decode cX1_tick 10 = .ok (.iconst (-1), 1) := by decide +kernel
theorem dX1_tick_11 : decode cX1_tick 11 = .ok (.ireturn, 1) := by decide +kernel
theorem dX1_tick_12 : decode cX1_tick 12 = .ok (.aload_n 0, 1) := by decide +kernel
theorem dX1_tick_13 : decode cX1_tick 13 = .ok (.getfield 25, 3) := by decide +kernel
theorem dX1_tick_16 : decode cX1_tick 16 = .ok (.bipush 10, 2) := by decide +kernel
theorem dX1_tick_18 : decode cX1_tick 18 = .ok (.iaload, 1) := by decide +kernel
theorem dX1_tick_19 : decode cX1_tick 19 = .ok (.istore_n 2, 1) := by decide +kernel
theorem dX1_tick_20 : decode cX1_tick 20 = .ok (.iconst 0, 1) := by decide +kernel
theorem dX1_tick_21 : decode cX1_tick 21 = .ok (.istore_n 3, 1) := by decide +kernel
theorem dX1_tick_22 : decode cX1_tick 22 = .ok (.iload_n 3, 1) := by decide +kernel
theorem dX1_tick_23 : decode cX1_tick 23 = .ok (.iload_n 1, 1) := by decide +kernel
theorem dX1_tick_24 : decode cX1_tick 24 = .ok (.if_icmp .ge 13, 3) := by decide +kernel
theorem dX1_tick_27 : decode cX1_tick 27 = .ok (.aload_n 0, 1) := by decide +kernel
theorem dX1_tick_28 : decode cX1_tick 28 = .ok (.invokevirtual 102, 3) := by decide +kernel
theorem dX1_tick_31 : decode cX1_tick 31 = .ok (.iinc 3 1, 3) := by decide +kernel
theorem dX1_tick_34 : decode cX1_tick 34 = .ok (.goto (-12), 3) := by decide +kernel
theorem dX1_tick_37 : decode cX1_tick 37 = .ok (.aload_n 0, 1) := by decide +kernel
theorem dX1_tick_38 : decode cX1_tick 38 = .ok (.getfield 25, 3) := by decide +kernel
theorem dX1_tick_41 : decode cX1_tick 41 = .ok (.bipush 10, 2) := by decide +kernel
theorem dX1_tick_43 : decode cX1_tick 43 = .ok (.iaload, 1) := by decide +kernel
theorem dX1_tick_44 : decode cX1_tick 44 = .ok (.iload_n 2, 1) := by decide +kernel
theorem dX1_tick_45 : decode cX1_tick 45 = .ok (.isub, 1) := by decide +kernel
theorem dX1_tick_46 : decode cX1_tick 46 = .ok (.ireturn, 1) := by decide +kernel
theorem dX1_waits_0 : decode cX1_waits 0 = .ok (.iload_n 1, 1) := by decide +kernel
theorem dX1_waits_1 : decode cX1_waits 1 = .ok (.bipush 100, 2) := by decide +kernel
theorem dX1_waits_3 : decode cX1_waits 3 = .ok (.invokestatic 52, 3) := by decide +kernel
theorem dX1_waits_6 : decode cX1_waits 6 = .ok (.ifCond .eq 12, 3) := by decide +kernel
theorem dX1_waits_9 : decode cX1_waits 9 = .ok (.iload_n 2, 1) := by decide +kernel
theorem dX1_waits_10 : decode cX1_waits 10 = .ok (.bipush 6, 2) := by decide +kernel
theorem dX1_waits_12 : decode cX1_waits 12 = .ok (.invokestatic 52, 3) := by decide +kernel
theorem dX1_waits_15 : decode cX1_waits 15 = .ok (.ifCond .ne 5, 3) := by decide +kernel
theorem dX1_waits_18 : decode cX1_waits 18 = .ok (.iconst (-1), 1) := by decide +kernel
theorem dX1_waits_19 : decode cX1_waits 19 = .ok (.ireturn, 1) := by decide +kernel
theorem dX1_waits_20 : decode cX1_waits 20 = .ok (.aload_n 0, 1) := by decide +kernel
theorem dX1_waits_21 : decode cX1_waits 21 = .ok (.getfield 38, 3) := by decide +kernel
theorem dX1_waits_24 : decode cX1_waits 24 = .ok (.iload_n 1, 1) := by decide +kernel
theorem dX1_waits_25 : decode cX1_waits 25 = .ok (.aaload, 1) := by decide +kernel
theorem dX1_waits_26 : decode cX1_waits 26 = .ok (.astore_n 3, 1) := by decide +kernel
theorem dX1_waits_27 : decode cX1_waits 27 = .ok (.aload_n 3, 1) := by decide +kernel
theorem dX1_waits_28 : decode cX1_waits 28 = .ok (.ifnonnull 6, 3) := by decide +kernel
theorem dX1_waits_31 : decode cX1_waits 31 = .ok (.bipush (-9), 2) := by decide +kernel
theorem dX1_waits_33 : decode cX1_waits 33 = .ok (.ireturn, 1) := by decide +kernel
theorem dX1_waits_34 : decode cX1_waits 34 = .ok (.iload_n 2, 1) := by decide +kernel
theorem dX1_waits_35 : decode cX1_waits 35 = .ok (.tableswitch 58 0 4 #[33, 38, 43, 48, 53], 33) := by decide +kernel
theorem dX1_waits_68 : decode cX1_waits 68 = .ok (.aload_n 3, 1) := by decide +kernel
theorem dX1_waits_69 : decode cX1_waits 69 = .ok (.getfield 105, 3) := by decide +kernel
theorem dX1_waits_72 : decode cX1_waits 72 = .ok (.ireturn, 1) := by decide +kernel
theorem dX1_waits_73 : decode cX1_waits 73 = .ok (.aload_n 3, 1) := by decide +kernel

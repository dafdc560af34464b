theorem dX2_init_0 : decode cX2_init 0 = .ok (.aload_n 0, 1) := by decide +kernel
theorem dX2_init_1 : decode cX2_init 1 = .ok (.invokespecial 1, 3) := by decide +kernel
theorem dX2_init_4 : decode cX2_init 4 = .ok (.aload_n 0, 1) := by decide +kernel
theorem dX2_init_5 : decode cX2_init 5 = .ok (.iconst 4, 1) := by decide +kernel
theorem dX2_init_6 : decode cX2_init 6 = .ok (.newarray .boolean, 2) := by decide +kernel
theorem dX2_init_8 : decode cX2_init 8 = .ok (.putfield 7, 3) := by decide +kernel
theorem dX2_init_11 : decode cX2_init 11 = .ok (.aload_n 0, 1) := by decide +kernel
theorem dX2_init_12 : decode cX2_init 12 = .ok (.bipush 6, 2) := by decide +kernel
theorem dX2_init_14 : decode cX2_init 14 = .ok (.newarray .int, 2) := by decide +kernel
theorem dX2_init_16 : decode cX2_init 16 = .ok (.putfield 13, 3) := by decide +kernel
theorem dX2_init_19 : decode cX2_init 19 = .ok (.aload_n 0, 1) := by decide +kernel
theorem dX2_init_20 : decode cX2_init 20 = .ok (.bipush 100, 2) := by decide +kernel
theorem dX2_init_22 : decode cX2_init 22 = .ok (.newarray .int, 2) := by decide +kernel
theorem dX2_init_24 : decode cX2_init 24 = .ok (.putfield 17, 3) := by decide +kernel
theorem dX2_init_27 : decode cX2_init 27 = .ok (.aload_n 0, 1) := by decide +kernel
theorem dX2_init_28 : decode cX2_init 28 = .ok (.bipush 100, 2) := by decide +kernel
theorem dX2_init_30 : decode cX2_init 30 = .ok (.newarray .int, 2) := by decide +kernel
theorem dX2_init_32 : decode cX2_init 32 = .ok (.putfield 20, 3) := by decide +kernel
theorem dX2_init_35 : decode cX2_init 35 = .ok (.aload_n 0, 1) := by decide +kernel
theorem dX2_init_36 : decode cX2_init 36 = .ok (.bipush 100, 2) := by decide +kernel
theorem dX2_init_38 : decode cX2_init 38 = .ok (.newarray .int, 2) := by decide +kernel
theorem dX2_init_40 : decode cX2_init 40 = .ok (.putfield 23, 3) := by decide +kernel
theorem dX2_init_43 : decode cX2_init 43 = .ok (.aload_n 0, 1) := by decide +kernel
theorem dX2_init_44 : decode cX2_init 44 = .ok (.bipush 100, 2) := by decide +kernel
theorem dX2_init_46 : decode cX2_init 46 = .ok (.newarray .int, 2) := by decide +kernel
theorem dX2_init_48 : decode cX2_init 48 = .ok (.putfield 26, 3) := by decide +kernel
theorem dX2_init_51 : decode cX2_init 51 = .ok (.aload_n 0, 1) := by decide +kernel
theorem dX2_init_52 : decode cX2_init 52 = .ok (.bipush 100, 2) := by decide +kernel
theorem dX2_init_54 : decode cX2_init 54 = .ok (.newarray .int, 2) := by decide +kernel
theorem dX2_init_56 : decode cX2_init 56 = .ok (.putfield 29, 3) := by decide +kernel
theorem dX2_init_59 : decode cX2_init 59 = .ok (.aload_n 0, 1) := by decide +kernel
theorem dX2_init_60 : decode cX2_init 60 = .ok (.bipush 100, 2) := by decide +kernel
theorem dX2_init_62 : decode cX2_init 62 = .ok (.newarray .int, 2) := by decide +kernel
theorem dX2_init_64 : decode cX2_init 64 = .ok (.putfield 32, 3) := by decide +kernel
theorem dX2_init_67 : decode cX2_init 67 = .ok (.aload_n 0, 1) := by decide +kernel
theorem dX2_init_68 : decode cX2_init 68 = .ok (.bipush 100, 2) := by decide +kernel
theorem dX2_init_70 : decode cX2_init 70 = .ok (.newarray .int, 2) := by decide +kernel
theorem dX2_init_72 : decode cX2_init 72 = .ok (.putfield 35, 3) := by decide +kernel
theorem dX2_init_75 : decode cX2_init 75 = .ok (.aload_n 0, 1) := by decide +kernel
theorem dX2_init_76 : decode cX2_init 76 = .ok (.bipush 100, 2) := by decide +kernel
theorem dX2_init_78 : decode cX2_init 78 = .ok (.newarray .int, 2) := by decide +kernel
theorem dX2_init_80 : decode cX2_init 80 = .ok (.putfield 38, 3) := by decide +kernel
theorem dX2_init_83 : decode cX2_init 83 = .ok (.aload_n 0, 1) := by decide +kernel
theorem dX2_init_84 : decode cX2_init 84 = .ok (.sipush 160, 3) := by decide +kernel
theorem dX2_init_87 : decode cX2_init 87 = .ok (.newarray .int, 2) := by decide +kernel
theorem dX2_init_89 : decode cX2_init 89 = .ok (.putfield 41, 3) := by decide +kernel
theorem dX2_init_92 : decode cX2_init 92 = .ok (.aload_n 0, 1) := by decide +kernel
theorem dX2_init_93 : decode cX2_init 93 = .ok (.bipush 35, 2) := by decide +kernel
theorem dX2_init_95 : decode cX2_init 95 = .ok (.newarray .int, 2) := by decide +kernel
theorem dX2_init_97 : decode cX2_init 97 = .ok (.putfield 44, 3) := by decide +kernel
theorem dX2_init_100 : decode cX2_init 100 = .ok (.aload_n 0, 1) := by decide +kernel
theorem dX2_init_101 : decode cX2_init 101 = .ok (.bipush 14, 2) := by decide +kernel
theorem dX2_init_103 : decode cX2_init 103 = .ok (.newarray .int, 2) := by decide +kernel
theorem dX2_init_105 : decode cX2_init 105 = .ok (.putfield 47, 3) := by decide +kernel
theorem dX2_init_108 : decode cX2_init 108 = .ok (.aload_n 0, 1) := by decide +kernel
theorem dX2_init_109 : decode cX2_init 109 = .ok (.bipush 13, 2) := by decide +kernel
theorem dX2_init_111 : decode cX2_init 111 = .ok (.newarray .int, 2) := by decide +kernel
theorem dX2_init_113 : decode cX2_init 113 = .ok (.putfield 50, 3) := by decide +kernel
theorem dX2_init_116 : decode cX2_init 116 = .ok (.aload_n 0, 1) := by decide +kernel
theorem dX2_init_117 : decode cX2_init 117 = .ok (.getfield 13, 3) := by decide +kernel
theorem dX2_init_120 : decode cX2_init 120 = .ok (.iconst 0, 1) := by decide +kernel
theorem dX2_init_121 : decode cX2_init 121 = .ok (.iconst 3, 1) := by decide +kernel
theorem dX2_init_122 : decode cX2_init 122 = .ok (.iastore, 1) := by decide +kernel
theorem dX2_init_123 : decode cX2_init 123 = .ok (.aload_n 0, 1) := by decide +kernel
theorem dX2_init_124 : decode cX2_init 124 = .ok (.getfield 13, 3) := by decide +kernel
theorem dX2_init_127 : decode cX2_init 127 = .ok (.iconst 1, 1) := by decide +kernel
theorem dX2_init_128 : decode cX2_init 128 = .ok (.sipush 1000, 3) := by decide +kernel
theorem dX2_init_131 : decode cX2_init 131 = .ok (.iastore, 1) := by decide +kernel
theorem dX2_init_132 : decode cX2_init 132 = .ok (.aload_n 0, 1) := by decide +kernel
theorem dX2_init_133 : decode cX2_init 133 = .ok (.getfield 13, 3) := by decide +kernel
theorem dX2_init_136 : decode cX2_init 136 = .ok (.iconst 2, 1) := by decide +kernel
theorem dX2_init_137 : decode cX2_init 137 = .ok (.iconst 2, 1) := by decide +kernel
theorem dX2_init_138 : decode cX2_init 138 = .ok (.iastore, 1) := by decide +kernel
theorem dX2_init_139 : decode cX2_init 139 = .ok (.aload_n 0, 1) := by decide +kernel
theorem dX2_init_140 : decode cX2_init 140 = .ok (.getfield 13, 3) := by decide +kernel
theorem dX2_init_143 : decode cX2_init 143 = .ok (.iconst 3, 1) := by decide +kernel
theorem dX2_init_144 : decode cX2_init 144 = .ok (.iconst 1, 1) := by decide +kernel
theorem dX2_init_145 : decode cX2_init 145 = .ok (.iastore, 1) := by decide +kernel
theorem dX2_init_146 : decode cX2_init 146 = .ok (.aload_n 0, 1) := by decide +kernel
theorem dX2_init_147 : decode cX2_init 147 = .ok (.getfield 13, 3) := by decide +kernel
theorem dX2_init_150 : decode cX2_init 150 = .ok (.iconst 4, 1) := by decide +kernel
theorem dX2_init_151 : decode cX2_init 151 = .ok (.iconst 5, 1) := by decide +kernel
theorem dX2_init_152 : decode cX2_init 152 = .ok (.iastore, 1) := by decide +kernel
theorem dX2_init_153 : decode cX2_init 153 = .ok (.aload_n 0, 1) := by decide +kernel
theorem dX2_init_154 : decode cX2_init 154 = .ok (.getfield 13, 3) := by decide +kernel
theorem dX2_init_157 : decode cX2_init 157 = .ok (.iconst 5, 1) := by decide +kernel
theorem dX2_init_158 : decode cX2_init 158 = .ok (.iconst 3, 1) := by decide +kernel
theorem dX2_init_159 : decode cX2_init 159 = .ok (.iastore, 1) := by decide +kernel
theorem dX2_init_160 : decode cX2_init 160 = .ok (.iconst 0, 1) := by decide +kernel
theorem dX2_init_161 : decode cX2_init 161 = .ok (.istore_n 1, 1) := by decide +kernel
theorem dX2_init_162 : decode cX2_init 162 = .ok (.iload_n 1, 1) := by decide +kernel
theorem dX2_init_163 : decode cX2_init 163 = .ok (.bipush 100, 2) := by decide +kernel
theorem dX2_init_165 : decode cX2_init 165 = .ok (.if_icmp .ge 17, 3) := by decide +kernel
theorem dX2_init_168 : decode cX2_init 168 = .ok (.aload_n 0, 1) := by decide +kernel
theorem dX2_init_169 : decode cX2_init 169 = .ok (.getfield 17, 3) := by decide +kernel
theorem dX2_init_172 : decode cX2_init 172 = .ok (.iload_n 1, 1) := by decide +kernel
theorem dX2_init_173 : decode cX2_init 173 = .ok (.bipush (-9), 2) := by decide +kernel
theorem dX2_init_175 : decode cX2_init 175 = .ok (.iastore, 1) := by decide +kernel
theorem dX2_init_176 : decode cX2_init 176 = .ok (.iinc 1 1, 3) := by decide +kernel
theorem dX2_init_179 : decode cX2_init 179 = .ok (.goto (-17), 3) := by decide +kernel
theorem dX2_init_182 : decode cX2_init 182 = .ok (.return_, 1) := by decide +kernel
theorem dX2_in_0 : decode cX2_in 0 = .ok (.iload_n 0, 1) := by decide +kernel
theorem dX2_in_1 : decode cX2_in 1 = .ok (.iload_n 1, 1) := by decide +kernel
theorem dX2_in_2 : decode cX2_in 2 = .ok (.if_icmp .lt 12, 3) := by decide +kernel
theorem dX2_in_5 : decode cX2_in 5 = .ok (.iload_n 0, 1) := by decide +kernel
theorem dX2_in_6 : decode cX2_in 6 = .ok (.iload_n 2, 1) := by decide +kernel
theorem dX2_in_7 : decode cX2_in 7 = .ok (.if_icmp .gt 7, 3) := by decide +kernel
theorem dX2_in_10 : decode cX2_in 10 = .ok (.iconst 1, 1) := by decide +kernel
theorem dX2_in_11 : decode cX2_in 11 = .ok (.goto 4, 3) := by decide +kernel
theorem dX2_in_14 : decode cX2_in 14 = .ok (.iconst 0, 1) := by decide +kernel
theorem dX2_in_15 : decode cX2_in 15 = .ok (.ireturn, 1) := by decide +kernel
theorem dX2_homeOf_0 : decode cX2_homeOf 0 = .ok (.bipush (-9), 2) := by decide +kernel
theorem dX2_homeOf_2 : decode cX2_homeOf 2 = .ok (.istore_n 2, 1) := by decide +kernel
theorem dX2_homeOf_3 : decode cX2_homeOf 3 = .ok (.iconst (-1), 1) := by decide +kernel
theorem dX2_homeOf_4 : decode cX2_homeOf 4 = .ok (.istore_n 3, 1) := by decide +kernel
theorem dX2_homeOf_5 : decode cX2_homeOf 5 = .ok (.iconst 0, 1) := by decide +kernel
theorem dX2_homeOf_6 : decode cX2_homeOf 6 = .ok (.istore 4, 2) := by decide +kernel
theorem dX2_homeOf_8 : decode cX2_homeOf 8 = .ok (.iload 4, 2) := by decide +kernel
theorem dX2_homeOf_10 : decode cX2_homeOf 10 = .ok (.iconst 4, 1) := by decide +kernel
theorem dX2_homeOf_11 : decode cX2_homeOf 11 = .ok (.if_icmp .ge 45, 3) := by decide +kernel
theorem dX2_homeOf_14 : decode cX2_homeOf 14 = .ok (.bipush 7, 2) := by decide +kernel
theorem dX2_homeOf_16 : decode cX2_homeOf 16 = .ok (.iload_n 1, 1) := by decide +kernel
theorem dX2_homeOf_17 : decode cX2_homeOf 17 = .ok (.imul, 1) := by decide +kernel
theorem dX2_homeOf_18 : decode cX2_homeOf 18 = .ok (.iconst 5, 1) := by decide +kernel
theorem dX2_homeOf_19 : decode cX2_homeOf 19 = .ok (.iload 4, 2) := by decide +kernel
theorem dX2_homeOf_21 : decode cX2_homeOf 21 = .ok (.imul, 1) := by decide +kernel
theorem dX2_homeOf_22 : decode cX2_homeOf 22 = .ok (.iadd, 1) := by decide +kernel
theorem dX2_homeOf_23 : decode cX2_homeOf 23 = .ok (.bipush 11, 2) := by decide +kernel
theorem dX2_homeOf_25 : decode cX2_homeOf 25 = .ok (.irem, 1) := by decide +kernel
theorem dX2_homeOf_26 : decode cX2_homeOf 26 = .ok (.istore 5, 2) := by decide +kernel
theorem dX2_homeOf_28 : decode cX2_homeOf 28 = .ok (.aload_n 0, 1) := by decide +kernel
theorem dX2_homeOf_29 : decode cX2_homeOf 29 = .ok (.getfield 7, 3) := by decide +kernel
theorem dX2_homeOf_32 : decode cX2_homeOf 32 = .ok (.iload 4, 2) := by decide +kernel
theorem dX2_homeOf_34 : decode cX2_homeOf 34 = .ok (.baload, 1) := by decide +kernel
theorem dX2_homeOf_35 : decode cX2_homeOf 35 = .ok (.ifCond .ne 15, 3) := by decide +kernel
theorem dX2_homeOf_38 : decode cX2_homeOf 38 = .ok (.iload 5, 2) := by decide +kernel
theorem dX2_homeOf_40 : decode cX2_homeOf 40 = .ok (.iload_n 3, 1) := by decide +kernel
theorem dX2_homeOf_41 : decode cX2_homeOf 41 = .ok (.if_icmp .le 9, 3) := by decide +kernel
theorem dX2_homeOf_44 : decode cX2_homeOf 44 = .ok (.iload 4, 2) := by decide +kernel
theorem dX2_homeOf_46 : decode cX2_homeOf 46 = .ok (.istore_n 2, 1) := by decide +kernel
theorem dX2_homeOf_47 : decode cX2_homeOf 47 = .ok (.iload 5, 2) := by decide +kernel
theorem dX2_homeOf_49 : decode cX2_homeOf 49 = .ok (.istore_n 3, 1) := by decide +kernel
theorem dX2_homeOf_50 : decode cX2_homeOf 50 = .ok (.iinc 4 1, 3) := by decide +kernel
theorem dX2_homeOf_53 : decode cX2_homeOf 53 = .ok (.goto (-45), 3) := by decide +kernel
theorem dX2_homeOf_56 : decode cX2_homeOf 56 = .ok (.iload_n 2, 1) := by decide +kernel
theorem dX2_homeOf_57 : decode cX2_homeOf 57 = .ok (.ireturn, 1) := by decide +kernel
theorem dX2_keeper_0 : decode cX2_keeper 0 = .ok (.aload_n 0, 1) := by decide +kernel
theorem dX2_keeper_1 : decode cX2_keeper 1 = .ok (.iconst 0, 1) := by decide +kernel
theorem dX2_keeper_2 : decode cX2_keeper 2 = .ok (.putfield 53, 3) := by decide +kernel
theorem dX2_keeper_5 : decode cX2_keeper 5 = .ok (.iload_n 1, 1) := by decide +kernel
theorem dX2_keeper_6 : decode cX2_keeper 6 = .ok (.iconst 0, 1) := by decide +kernel
theorem dX2_keeper_7 : decode cX2_keeper 7 = .ok (.iconst 3, 1) := by decide +kernel
theorem dX2_keeper_8 : decode cX2_keeper 8 = .ok (.invokestatic 57, 3) := by decide +kernel
theorem dX2_keeper_11 : decode cX2_keeper 11 = .ok (.ifCond .ne 5, 3) := by decide +kernel
theorem dX2_keeper_14 : decode cX2_keeper 14 = .ok (.iconst (-1), 1) := by decide +kernel
theorem dX2_keeper_15 : decode cX2_keeper 15 = .ok (.ireturn, 1) := by decide +kernel
theorem dX2_keeper_16 : decode cX2_keeper 16 = .ok (.aload_n 0, 1) := by decide +kernel
theorem dX2_keeper_17 : decode cX2_keeper 17 = .ok (.getfield 7, 3) := by decide +kernel
theorem dX2_keeper_20 : decode cX2_keeper 20 = .ok (.iload_n 1, 1) := by decide +kernel
theorem dX2_keeper_21 : decode cX2_keeper 21 = .ok (.baload, 1) := by decide +kernel
theorem dX2_keeper_22 : decode cX2_keeper 22 = .ok (.iload_n 2, 1) := by decide +kernel
theorem dX2_keeper_23 : decode cX2_keeper 23 = .ok (.if_icmp .eq 5, 3) := by decide +kernel
theorem dX2_keeper_26 : decode cX2_keeper 26 = .ok (.iconst 0, 1) := by decide +kernel
theorem dX2_keeper_27 : decode cX2_keeper 27 = .ok (.ireturn, 1) := by decide +kernel
theorem dX2_keeper_28 : decode cX2_keeper 28 = .ok (.aload_n 0, 1) := by decide +kernel
theorem dX2_keeper_29 : decode cX2_keeper 29 = .ok (.getfield 7, 3) := by decide +kernel
theorem dX2_keeper_32 : decode cX2_keeper 32 = .ok (.iload_n 1, 1) := by decide +kernel
theorem dX2_keeper_33 : decode cX2_keeper 33 = .ok (.iload_n 2, 1) := by decide +kernel
theorem dX2_keeper_34 : decode cX2_keeper 34 = .ok (.ifCond .ne 7, 3) := by decide +kernel
theorem dX2_keeper_37 : decode cX2_keeper 37 = .ok (.iconst 1, 1) := by decide +kernel
theorem dX2_keeper_38 : decode cX2_keeper 38 = .ok (.goto 4, 3) := by decide +kernel
theorem dX2_keeper_41 : decode cX2_keeper 41 = .ok (.iconst 0, 1) := by decide +kernel
theorem dX2_keeper_42 : decode cX2_keeper 42 = .ok (.bastore, 1) := by decide +kernel
theorem dX2_keeper_43 : decode cX2_keeper 43 = .ok (.iconst 0, 1) := by decide +kernel
theorem dX2_keeper_44 : decode cX2_keeper 44 = .ok (.istore_n 3, 1) := by decide +kernel
theorem dX2_keeper_45 : decode cX2_keeper 45 = .ok (.iload_n 3, 1) := by decide +kernel
theorem dX2_keeper_46 : decode cX2_keeper 46 = .ok (.bipush 100, 2) := by decide +kernel
theorem dX2_keeper_48 : decode cX2_keeper 48 = .ok (.if_icmp .ge 87, 3) := by decide +kernel
theorem dX2_keeper_51 : decode cX2_keeper 51 = .ok (.aload_n 0, 1) := by decide +kernel
theorem dX2_keeper_52 : decode cX2_keeper 52 = .ok (.getfield 17, 3) := by decide +kernel
theorem dX2_keeper_55 : decode cX2_keeper 55 = .ok (.iload_n 3, 1) := by decide +kernel
theorem dX2_keeper_56 : decode cX2_keeper 56 = .ok (.iaload, 1) := by decide +kernel
theorem dX2_keeper_57 : decode cX2_keeper 57 = .ok (.iload_n 1, 1) := by decide +kernel
theorem dX2_keeper_58 : decode cX2_keeper 58 = .ok (.if_icmp .ne 25, 3) := by decide +kernel
theorem dX2_keeper_61 : decode cX2_keeper 61 = .ok (.iload_n 2, 1) := by decide +kernel
theorem dX2_keeper_62 : decode cX2_keeper 62 = .ok (.ifCond .ne 21, 3) := by decide +kernel
theorem dX2_keeper_65 : decode cX2_keeper 65 = .ok (.aload_n 0, 1) := by decide +kernel
theorem dX2_keeper_66 : decode cX2_keeper 66 = .ok (.getfield 17, 3) := by decide +kernel
theorem dX2_keeper_69 : decode cX2_keeper 69 = .ok (.iload_n 3, 1) := by decide +kernel
theorem dX2_keeper_70 : decode cX2_keeper 70 = .ok (.bipush (-9), 2) := by decide +kernel
theorem dX2_keeper_72 : decode cX2_keeper 72 = .ok (.iastore, 1) := by decide +kernel
theorem dX2_keeper_73 : decode cX2_keeper 73 = .ok (.aload_n 0, 1) := by decide +kernel
theorem dX2_keeper_74 : decode cX2_keeper 74 = .ok (.getfield 50, 3) := by decide +kernel
theorem dX2_keeper_77 : decode cX2_keeper 77 = .ok (.iconst 3, 1) := by decide +kernel
theorem dX2_keeper_78 : decode cX2_keeper 78 = .ok (.dup2, 1) := by decide +kernel
theorem dX2_keeper_79 : decode cX2_keeper 79 = .ok (.iaload, 1) := by decide +kernel
theorem dX2_keeper_80 : decode cX2_keeper 80 = .ok (.iconst 1, 1) := by decide +kernel
theorem dX2_keeper_81 : decode cX2_keeper 81 = .ok (.iadd, 1) := by decide +kernel
theorem dX2_keeper_82 : decode cX2_keeper 82 = .ok (.iastore, 1) := by decide +kernel
theorem dX2_keeper_83 : decode cX2_keeper 83 = .ok (.aload_n 0, 1) := by decide +kernel
theorem dX2_keeper_84 : decode cX2_keeper 84 = .ok (.getfield 17, 3) := by decide +kernel
theorem dX2_keeper_87 : decode cX2_keeper 87 = .ok (.iload_n 3, 1) := by decide +kernel
theorem dX2_keeper_88 : decode cX2_keeper 88 = .ok (.iaload, 1) := by decide +kernel
theorem dX2_keeper_89 : decode cX2_keeper 89 = .ok (.bipush (-9), 2) := by decide +kernel
theorem dX2_keeper_91 : decode cX2_keeper 91 = .ok (.if_icmp .eq 38, 3) := by decide +kernel
theorem dX2_keeper_94 : decode cX2_keeper 94 = .ok (.aload_n 0, 1) := by decide +kernel
theorem dX2_keeper_95 : decode cX2_keeper 95 = .ok (.getfield 17, 3) := by decide +kernel
theorem dX2_keeper_98 : decode cX2_keeper 98 = .ok (.iload_n 3, 1) := by decide +kernel
theorem dX2_keeper_99 : decode cX2_keeper 99 = .ok (.iaload, 1) := by decide +kernel
theorem dX2_keeper_100 : decode cX2_keeper 100 = .ok (.aload_n 0, 1) := by decide +kernel
theorem dX2_keeper_101 : decode cX2_keeper 101 = .ok (.iload_n 3, 1) := by decide +kernel
theorem dX2_keeper_102 : decode cX2_keeper 102 = .ok (.invokevirtual 61, 3) := by decide +kernel
theorem dX2_keeper_105 : decode cX2_keeper 105 = .ok (.if_icmp .eq 24, 3) := by decide +kernel
theorem dX2_keeper_108 : decode cX2_keeper 108 = .ok (.aload_n 0, 1) := by decide +kernel
theorem dX2_keeper_109 : decode cX2_keeper 109 = .ok (.getfield 17, 3) := by decide +kernel
theorem dX2_keeper_112 : decode cX2_keeper 112 = .ok (.iload_n 3, 1) := by decide +kernel
theorem dX2_keeper_113 : decode cX2_keeper 113 = .ok (.aload_n 0, 1) := by decide +kernel
theorem dX2_keeper_114 : decode cX2_keeper 114 = .ok (.iload_n 3, 1) := by decide +kernel
theorem dX2_keeper_115 : decode cX2_keeper 115 = .ok (.invokevirtual 61, 3) := by decide +kernel
theorem dX2_keeper_118 : decode cX2_keeper 118 = .ok (.iastore, 1) := by decide +kernel
theorem dX2_keeper_119 : decode cX2_keeper 119 = .ok (.aload_n 0, 1) := by decide +kernel
theorem dX2_keeper_120 : decode cX2_keeper 120 = .ok (.getfield 50, 3) := by decide +kernel
theorem dX2_keeper_123 : decode cX2_keeper 123 = .ok (.iconst 4, 1) := by decide +kernel
theorem dX2_keeper_124 : decode cX2_keeper 124 = .ok (.dup2, 1) := by decide +kernel
theorem dX2_keeper_125 : decode cX2_keeper 125 = .ok (.iaload, 1) := by decide +kernel
theorem dX2_keeper_126 : decode cX2_keeper 126 = .ok (.iconst 1, 1) := by decide +kernel
theorem dX2_keeper_127 : decode cX2_keeper 127 = .ok (.iadd, 1) := by decide +kernel
theorem dX2_keeper_128 : decode cX2_keeper 128 = .ok (.iastore, 1) := by decide +kernel
theorem dX2_keeper_129 : decode cX2_keeper 129 = .ok (.iinc 3 1, 3) := by decide +kernel
theorem dX2_keeper_132 : decode cX2_keeper 132 = .ok (.goto (-87), 3) := by decide +kernel
theorem dX2_keeper_135 : decode cX2_keeper 135 = .ok (.iconst 1, 1) := by decide +kernel
theorem dX2_keeper_136 : decode cX2_keeper 136 = .ok (.ireturn, 1) := by decide +kernel
theorem dX2_home_0 : decode cX2_home 0 = .ok (.aload_n 0, 1) := by decide +kernel
theorem dX2_home_1 : decode cX2_home 1 = .ok (.iconst 0, 1) := by decide +kernel
theorem dX2_home_2 : decode cX2_home 2 = .ok (.putfield 53, 3) := by decide +kernel
theorem dX2_home_5 : decode cX2_home 5 = .ok (.iload_n 1, 1) := by decide +kernel
theorem dX2_home_6 : decode cX2_home 6 = .ok (.iconst 0, 1) := by decide +kernel
theorem dX2_home_7 : decode cX2_home 7 = .ok (.bipush 99, 2) := by decide +kernel
theorem dX2_home_9 : decode cX2_home 9 = .ok (.invokestatic 57, 3) := by decide +kernel
theorem dX2_home_12 : decode cX2_home 12 = .ok (.ifCond .eq 11, 3) := by decide +kernel
theorem dX2_home_15 : decode cX2_home 15 = .ok (.aload_n 0, 1) := by decide +kernel
theorem dX2_home_16 : decode cX2_home 16 = .ok (.iload_n 1, 1) := by decide +kernel
theorem dX2_home_17 : decode cX2_home 17 = .ok (.invokevirtual 61, 3) := by decide +kernel
theorem dX2_home_20 : decode cX2_home 20 = .ok (.goto 4, 3) := by decide +kernel
theorem dX2_home_23 : decode cX2_home 23 = .ok (.iconst (-1), 1) := by decide +kernel
theorem dX2_home_24 : decode cX2_home 24 = .ok (.ireturn, 1) := by decide +kernel
theorem dX2_set_0 : decode cX2_set 0 = .ok (.aload_n 0, 1) := by decide +kernel
theorem dX2_set_1 : decode cX2_set 1 = .ok (.iconst 0, 1) := by decide +kernel
theorem dX2_set_2 : decode cX2_set 2 = .ok (.putfield 53, 3) := by decide +kernel
theorem dX2_set_5 : decode cX2_set 5 = .ok (.iload_n 1, 1) := by decide +kernel
theorem dX2_set_6 : decode cX2_set 6 = .ok (.ifCond .ne 13, 3) := by decide +kernel
theorem dX2_set_9 : decode cX2_set 9 = .ok (.iload_n 2, 1) := by decide +kernel
theorem dX2_set_10 : decode cX2_set 10 = .ok (.iconst 1, 1) := by decide +kernel
theorem dX2_set_11 : decode cX2_set 11 = .ok (.bipush 9, 2) := by decide +kernel
theorem dX2_set_13 : decode cX2_set 13 = .ok (.invokestatic 57, 3) := by decide +kernel
theorem dX2_set_16 : decode cX2_set 16 = .ok (.goto 83, 3) := by decide +kernel
theorem dX2_set_19 : decode cX2_set 19 = .ok (.iload_n 1, 1) := by decide +kernel
theorem dX2_set_20 : decode cX2_set 20 = .ok (.iconst 1, 1) := by decide +kernel
theorem dX2_set_21 : decode cX2_set 21 = .ok (.if_icmp .ne 14, 3) := by decide +kernel
theorem dX2_set_24 : decode cX2_set 24 = .ok (.iload_n 2, 1) := by decide +kernel
theorem dX2_set_25 : decode cX2_set 25 = .ok (.iconst 1, 1) := by decide +kernel
theorem dX2_set_26 : decode cX2_set 26 = .ok (.sipush 8000, 3) := by decide +kernel
theorem dX2_set_29 : decode cX2_set 29 = .ok (.invokestatic 57, 3) := by decide +kernel
theorem dX2_set_32 : decode cX2_set 32 = .ok (.goto 67, 3) := by decide +kernel
theorem dX2_set_35 : decode cX2_set 35 = .ok (.iload_n 1, 1) := by decide +kernel
theorem dX2_set_36 : decode cX2_set 36 = .ok (.iconst 2, 1) := by decide +kernel
theorem dX2_set_37 : decode cX2_set 37 = .ok (.if_icmp .ne 13, 3) := by decide +kernel
theorem dX2_set_40 : decode cX2_set 40 = .ok (.iload_n 2, 1) := by decide +kernel
theorem dX2_set_41 : decode cX2_set 41 = .ok (.iconst 0, 1) := by decide +kernel
theorem dX2_set_42 : decode cX2_set 42 = .ok (.bipush 9, 2) := by decide +kernel
theorem dX2_set_44 : decode cX2_set 44 = .ok (.invokestatic 57, 3) := by decide +kernel
theorem dX2_set_47 : decode cX2_set 47 = .ok (.goto 52, 3) := by decide +kernel
theorem dX2_set_50 : decode cX2_set 50 = .ok (.iload_n 1, 1) := by decide +kernel
theorem dX2_set_51 : decode cX2_set 51 = .ok (.iconst 3, 1) := by decide +kernel
theorem dX2_set_52 : decode cX2_set 52 = .ok (.if_icmp .ne 12, 3) := by decide +kernel
theorem dX2_set_55 : decode cX2_set 55 = .ok (.iload_n 2, 1) := by decide +kernel
theorem dX2_set_56 : decode cX2_set 56 = .ok (.iconst 0, 1) := by decide +kernel
theorem dX2_set_57 : decode cX2_set 57 = .ok (.iconst 1, 1) := by decide +kernel
theorem dX2_set_58 : decode cX2_set 58 = .ok (.invokestatic 57, 3) := by decide +kernel
theorem dX2_set_61 : decode cX2_set 61 = .ok (.goto 38, 3) := by decide +kernel
theorem dX2_set_64 : decode cX2_set 64 = .ok (.iload_n 1, 1) := by decide +kernel
theorem dX2_set_65 : decode cX2_set 65 = .ok (.iconst 4, 1) := by decide +kernel
theorem dX2_set_66 : decode cX2_set 66 = .ok (.if_icmp .ne 13, 3) := by decide +kernel
theorem dX2_set_69 : decode cX2_set 69 = .ok (.iload_n 2, 1) := by decide +kernel
theorem dX2_set_70 : decode cX2_set 70 = .ok (.iconst 1, 1) := by decide +kernel
theorem dX2_set_71 : decode cX2_set 71 = .ok (.bipush 20, 2) := by decide +kernel
theorem dX2_set_73 : decode cX2_set 73 = .ok (.invokestatic 57, 3) := by decide +kernel
theorem dX2_set_76 : decode cX2_set 76 = .ok (.goto 23, 3) := by decide +kernel
theorem dX2_set_79 : decode cX2_set 79 = .ok (.iload_n 1, 1) := by decide +kernel
theorem dX2_set_80 : decode cX2_set 80 = .ok (.iconst 5, 1) := by decide +kernel
theorem dX2_set_81 : decode cX2_set 81 = .ok (.if_icmp .ne 17, 3) := by decide +kernel
theorem dX2_set_84 : decode cX2_set 84 = .ok (.iload_n 2, 1) := by decide +kernel
theorem dX2_set_85 : decode cX2_set 85 = .ok (.iconst 0, 1) := by decide +kernel
theorem dX2_set_86 : decode cX2_set 86 = .ok (.bipush 20, 2) := by decide +kernel
theorem dX2_set_88 : decode cX2_set 88 = .ok (.invokestatic 57, 3) := by decide +kernel
theorem dX2_set_91 : decode cX2_set 91 = .ok (.ifCond .eq 7, 3) := by decide +kernel
theorem dX2_set_94 : decode cX2_set 94 = .ok (.iconst 1, 1) := by decide +kernel
theorem dX2_set_95 : decode cX2_set 95 = .ok (.goto 4, 3) := by decide +kernel
theorem dX2_set_98 : decode cX2_set 98 = .ok (.iconst 0, 1) := by decide +kernel
theorem dX2_set_99 : decode cX2_set 99 = .ok (.istore_n 3, 1) := by decide +kernel
theorem dX2_set_100 : decode cX2_set 100 = .ok (.iload_n 3, 1) := by decide +kernel
theorem dX2_set_101 : decode cX2_set 101 = .ok (.ifCond .ne 5, 3) := by decide +kernel
theorem dX2_set_104 : decode cX2_set 104 = .ok (.iconst (-1), 1) := by decide +kernel
theorem dX2_set_105 : decode cX2_set 105 = .ok (.ireturn, 1) := by decide +kernel
theorem dX2_set_106 : decode cX2_set 106 = .ok (.aload_n 0, 1) := by decide +kernel
theorem dX2_set_107 : decode cX2_set 107 = .ok (.getfield 13, 3) := by decide +kernel
theorem dX2_set_110 : decode cX2_set 110 = .ok (.iload_n 1, 1) := by decide +kernel
theorem dX2_set_111 : decode cX2_set 111 = .ok (.iaload, 1) := by decide +kernel
theorem dX2_set_112 : decode cX2_set 112 = .ok (.istore 4, 2) := by decide +kernel
theorem dX2_set_114 : decode cX2_set 114 = .ok (.aload_n 0, 1) := by decide +kernel
theorem dX2_set_115 : decode cX2_set 115 = .ok (.getfield 13, 3) := by decide +kernel
theorem dX2_set_118 : decode cX2_set 118 = .ok (.iload_n 1, 1) := by decide +kernel
theorem dX2_set_119 : decode cX2_set 119 = .ok (.iload_n 2, 1) := by decide +kernel
theorem dX2_set_120 : decode cX2_set 120 = .ok (.iastore, 1) := by decide +kernel
theorem dX2_set_121 : decode cX2_set 121 = .ok (.iconst 0, 1) := by decide +kernel
theorem dX2_set_122 : decode cX2_set 122 = .ok (.istore 5, 2) := by decide +kernel
theorem dX2_set_124 : decode cX2_set 124 = .ok (.iload 5, 2) := by decide +kernel
theorem dX2_set_126 : decode cX2_set 126 = .ok (.iconst 5, 1) := by decide +kernel
theorem dX2_set_127 : decode cX2_set 127 = .ok (.if_icmp .ge 60, 3) := by decide +kernel
theorem dX2_set_130 : decode cX2_set 130 = .ok (.iload_n 1, 1) := by decide +kernel
theorem dX2_set_131 : decode cX2_set 131 = .ok (.ifCond .ne 56, 3) := by decide +kernel
theorem dX2_set_134 : decode cX2_set 134 = .ok (.iload 4, 2) := by decide +kernel
theorem dX2_set_136 : decode cX2_set 136 = .ok (.iload_n 2, 1) := by decide +kernel
theorem dX2_set_137 : decode cX2_set 137 = .ok (.if_icmp .eq 50, 3) := by decide +kernel
theorem dX2_set_140 : decode cX2_set 140 = .ok (.aload_n 0, 1) := by decide +kernel
theorem dX2_set_141 : decode cX2_set 141 = .ok (.getfield 44, 3) := by decide +kernel
theorem dX2_set_144 : decode cX2_set 144 = .ok (.bipush 7, 2) := by decide +kernel
theorem dX2_set_146 : decode cX2_set 146 = .ok (.iload 5, 2) := by decide +kernel
theorem dX2_set_148 : decode cX2_set 148 = .ok (.imul, 1) := by decide +kernel
theorem dX2_set_149 : decode cX2_set 149 = .ok (.bipush 6, 2) := by decide +kernel
theorem dX2_set_151 : decode cX2_set 151 = .ok (.iadd, 1) := by decide +kernel
theorem dX2_set_152 : decode cX2_set 152 = .ok (.dup2, 1) := by decide +kernel
theorem dX2_set_153 : decode cX2_set 153 = .ok (.iaload, 1) := by decide +kernel
theorem dX2_set_154 : decode cX2_set 154 = .ok (.aload_n 0, 1) := by decide +kernel
theorem dX2_set_155 : decode cX2_set 155 = .ok (.getfield 44, 3) := by decide +kernel
theorem dX2_set_158 : decode cX2_set 158 = .ok (.bipush 7, 2) := by decide +kernel
theorem dX2_set_160 : decode cX2_set 160 = .ok (.iload 5, 2) := by decide +kernel
theorem dX2_set_162 : decode cX2_set 162 = .ok (.imul, 1) := by decide +kernel
theorem dX2_set_163 : decode cX2_set 163 = .ok (.iconst 5, 1) := by decide +kernel
theorem dX2_set_164 : decode cX2_set 164 = .ok (.iadd, 1) := by decide +kernel
theorem dX2_set_165 : decode cX2_set 165 = .ok (.iaload, 1) := by decide +kernel
theorem dX2_set_166 : decode cX2_set 166 = .ok (.iadd, 1) := by decide +kernel
theorem dX2_set_167 : decode cX2_set 167 = .ok (.iastore, 1) := by decide +kernel
theorem dX2_set_168 : decode cX2_set 168 = .ok (.aload_n 0, 1) := by decide +kernel
theorem dX2_set_169 : decode cX2_set 169 = .ok (.getfield 44, 3) := by decide +kernel
theorem dX2_set_172 : decode cX2_set 172 = .ok (.bipush 7, 2) := by decide +kernel
theorem dX2_set_174 : decode cX2_set 174 = .ok (.iload 5, 2) := by decide +kernel
theorem dX2_set_176 : decode cX2_set 176 = .ok (.imul, 1) := by decide +kernel
theorem dX2_set_177 : decode cX2_set 177 = .ok (.iconst 5, 1) := by decide +kernel
theorem dX2_set_178 : decode cX2_set 178 = .ok (.iadd, 1) := by decide +kernel
theorem dX2_set_179 : decode cX2_set 179 = .ok (.iconst 0, 1) := by decide +kernel
theorem dX2_set_180 : decode cX2_set 180 = .ok (.iastore, 1) := by decide +kernel
theorem dX2_set_181 : decode cX2_set 181 = .ok (.iinc 5 1, 3) := by decide +kernel
theorem dX2_set_184 : decode cX2_set 184 = .ok (.goto (-60), 3) := by decide +kernel
theorem dX2_set_187 : decode cX2_set 187 = .ok (.iload 4, 2) := by decide +kernel
theorem dX2_set_189 : decode cX2_set 189 = .ok (.ireturn, 1) := by decide +kernel
theorem dX2_weightOf_0 : decode cX2_weightOf 0 = .ok (.iload_n 3, 1) := by decide +kernel
theorem dX2_weightOf_1 : decode cX2_weightOf 1 = .ok (.ifCond .eq 41, 3) := by decide +kernel
theorem dX2_weightOf_4 : decode cX2_weightOf 4 = .ok (.aload_n 0, 1) := by decide +kernel
theorem dX2_weightOf_5 : decode cX2_weightOf 5 = .ok (.dup, 1) := by decide +kernel
theorem dX2_weightOf_6 : decode cX2_weightOf 6 = .ok (.getfield 65, 3) := by decide +kernel
theorem dX2_weightOf_9 : decode cX2_weightOf 9 = .ok (.ldc2_w 69, 3) := by decide +kernel
theorem dX2_weightOf_12 : decode cX2_weightOf 12 = .ok (.ladd, 1) := by decide +kernel
theorem dX2_weightOf_13 : decode cX2_weightOf 13 = .ok (.putfield 65, 3) := by decide +kernel
theorem dX2_weightOf_16 : decode cX2_weightOf 16 = .ok (.aload_n 0, 1) := by decide +kernel
theorem dX2_weightOf_17 : decode cX2_weightOf 17 = .ok (.getfield 13, 3) := by decide +kernel
theorem dX2_weightOf_20 : decode cX2_weightOf 20 = .ok (.iconst 3, 1) := by decide +kernel
theorem dX2_weightOf_21 : decode cX2_weightOf 21 = .ok (.iaload, 1) := by decide +kernel
theorem dX2_weightOf_22 : decode cX2_weightOf 22 = .ok (.ifCond .ne 20, 3) := by decide +kernel
theorem dX2_weightOf_25 : decode cX2_weightOf 25 = .ok (.aload_n 0, 1) := by decide +kernel
theorem dX2_weightOf_26 : decode cX2_weightOf 26 = .ok (.getfield 44, 3) := by decide +kernel
theorem dX2_weightOf_29 : decode cX2_weightOf 29 = .ok (.bipush 7, 2) := by decide +kernel
theorem dX2_weightOf_31 : decode cX2_weightOf 31 = .ok (.iload_n 1, 1) := by decide +kernel
theorem dX2_weightOf_32 : decode cX2_weightOf 32 = .ok (.imul, 1) := by decide +kernel
theorem dX2_weightOf_33 : decode cX2_weightOf 33 = .ok (.iconst 4, 1) := by decide +kernel
theorem dX2_weightOf_34 : decode cX2_weightOf 34 = .ok (.iadd, 1) := by decide +kernel
theorem dX2_weightOf_35 : decode cX2_weightOf 35 = .ok (.dup2, 1) := by decide +kernel
theorem dX2_weightOf_36 : decode cX2_weightOf 36 = .ok (.iaload, 1) := by decide +kernel
theorem dX2_weightOf_37 : decode cX2_weightOf 37 = .ok (.iconst 1, 1) := by decide +kernel
theorem dX2_weightOf_38 : decode cX2_weightOf 38 = .ok (.iadd, 1) := by decide +kernel
theorem dX2_weightOf_39 : decode cX2_weightOf 39 = .ok (.iastore, 1) := by decide +kernel
theorem dX2_weightOf_40 : decode cX2_weightOf 40 = .ok (.iconst 0, 1) := by decide +kernel
theorem dX2_weightOf_41 : decode cX2_weightOf 41 = .ok (.ireturn, 1) := by decide +kernel
theorem dX2_weightOf_42 : decode cX2_weightOf 42 = .ok (.aload_n 0, 1) := by decide +kernel
theorem dX2_weightOf_43 : decode cX2_weightOf 43 = .ok (.dup, 1) := by decide +kernel
theorem dX2_weightOf_44 : decode cX2_weightOf 44 = .ok (.getfield 65, 3) := by decide +kernel
theorem dX2_weightOf_47 : decode cX2_weightOf 47 = .ok (.ldc2_w 71, 3) := by decide +kernel
theorem dX2_weightOf_50 : decode cX2_weightOf 50 = .ok (.ladd, 1) := by decide +kernel
theorem dX2_weightOf_51 : decode cX2_weightOf 51 = .ok (.putfield 65, 3) := by decide +kernel
theorem dX2_weightOf_54 : decode cX2_weightOf 54 = .ok (.aload_n 0, 1) := by decide +kernel
theorem dX2_weightOf_55 : decode cX2_weightOf 55 = .ok (.getfield 44, 3) := by decide +kernel
theorem dX2_weightOf_58 : decode cX2_weightOf 58 = .ok (.bipush 7, 2) := by decide +kernel
theorem dX2_weightOf_60 : decode cX2_weightOf 60 = .ok (.iload_n 1, 1) := by decide +kernel
theorem dX2_weightOf_61 : decode cX2_weightOf 61 = .ok (.imul, 1) := by decide +kernel
theorem dX2_weightOf_62 : decode cX2_weightOf 62 = .ok (.iaload, 1) := by decide +kernel
theorem dX2_weightOf_63 : decode cX2_weightOf 63 = .ok (.aload_n 0, 1) := by decide +kernel
theorem dX2_weightOf_64 : decode cX2_weightOf 64 = .ok (.getfield 13, 3) := by decide +kernel
theorem dX2_weightOf_67 : decode cX2_weightOf 67 = .ok (.iconst 2, 1) := by decide +kernel
theorem dX2_weightOf_68 : decode cX2_weightOf 68 = .ok (.iaload, 1) := by decide +kernel
theorem dX2_weightOf_69 : decode cX2_weightOf 69 = .ok (.if_icmp .ge 5, 3) := by decide +kernel
theorem dX2_weightOf_72 : decode cX2_weightOf 72 = .ok (.iconst 1, 1) := by decide +kernel
theorem dX2_weightOf_73 : decode cX2_weightOf 73 = .ok (.ireturn, 1) := by decide +kernel
theorem dX2_weightOf_74 : decode cX2_weightOf 74 = .ok (.aload_n 0, 1) := by decide +kernel
theorem dX2_weightOf_75 : decode cX2_weightOf 75 = .ok (.dup, 1) := by decide +kernel
theorem dX2_weightOf_76 : decode cX2_weightOf 76 = .ok (.getfield 65, 3) := by decide +kernel
theorem dX2_weightOf_79 : decode cX2_weightOf 79 = .ok (.ldc2_w 73, 3) := by decide +kernel
theorem dX2_weightOf_82 : decode cX2_weightOf 82 = .ok (.ladd, 1) := by decide +kernel
theorem dX2_weightOf_83 : decode cX2_weightOf 83 = .ok (.putfield 65, 3) := by decide +kernel
theorem dX2_weightOf_86 : decode cX2_weightOf 86 = .ok (.iload_n 2, 1) := by decide +kernel
theorem dX2_weightOf_87 : decode cX2_weightOf 87 = .ok (.aload_n 0, 1) := by decide +kernel
theorem dX2_weightOf_88 : decode cX2_weightOf 88 = .ok (.getfield 13, 3) := by decide +kernel
theorem dX2_weightOf_91 : decode cX2_weightOf 91 = .ok (.iconst 1, 1) := by decide +kernel
theorem dX2_weightOf_92 : decode cX2_weightOf 92 = .ok (.iaload, 1) := by decide +kernel
theorem dX2_weightOf_93 : decode cX2_weightOf 93 = .ok (.if_icmp .lt 5, 3) := by decide +kernel
theorem dX2_weightOf_96 : decode cX2_weightOf 96 = .ok (.iconst 1, 1) := by decide +kernel
theorem dX2_weightOf_97 : decode cX2_weightOf 97 = .ok (.ireturn, 1) := by decide +kernel
theorem dX2_weightOf_98 : decode cX2_weightOf 98 = .ok (.aload_n 0, 1) := by decide +kernel
theorem dX2_weightOf_99 : decode cX2_weightOf 99 = .ok (.dup, 1) := by decide +kernel
theorem dX2_weightOf_100 : decode cX2_weightOf 100 = .ok (.getfield 65, 3) := by decide +kernel
theorem dX2_weightOf_103 : decode cX2_weightOf 103 = .ok (.lconst 1, 1) := by decide +kernel
theorem dX2_weightOf_104 : decode cX2_weightOf 104 = .ok (.ladd, 1) := by decide +kernel
theorem dX2_weightOf_105 : decode cX2_weightOf 105 = .ok (.putfield 65, 3) := by decide +kernel
theorem dX2_weightOf_108 : decode cX2_weightOf 108 = .ok (.aload_n 0, 1) := by decide +kernel
theorem dX2_weightOf_109 : decode cX2_weightOf 109 = .ok (.getfield 44, 3) := by decide +kernel
theorem dX2_weightOf_112 : decode cX2_weightOf 112 = .ok (.bipush 7, 2) := by decide +kernel
theorem dX2_weightOf_114 : decode cX2_weightOf 114 = .ok (.iload_n 1, 1) := by decide +kernel
theorem dX2_weightOf_115 : decode cX2_weightOf 115 = .ok (.imul, 1) := by decide +kernel
theorem dX2_weightOf_116 : decode cX2_weightOf 116 = .ok (.iconst 5, 1) := by decide +kernel
theorem dX2_weightOf_117 : decode cX2_weightOf 117 = .ok (.iadd, 1) := by decide +kernel
theorem dX2_weightOf_118 : decode cX2_weightOf 118 = .ok (.dup2, 1) := by decide +kernel

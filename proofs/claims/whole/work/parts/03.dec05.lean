theorem dX2_comes_64 : decode cX2_comes 64 = .ok (.iload_n 1, 1) := by decide +kernel
theorem dX2_comes_65 : decode cX2_comes 65 = .ok (.iaload, 1) := by decide +kernel
theorem dX2_comes_66 : decode cX2_comes 66 = .ok (.isub, 1) := by decide +kernel
theorem dX2_comes_67 : decode cX2_comes 67 = .ok (.aload_n 0, 1) := by decide +kernel
theorem dX2_comes_68 : decode cX2_comes 68 = .ok (.getfield 13, 3) := by decide +kernel
theorem dX2_comes_71 : decode cX2_comes 71 = .ok (.iconst 5, 1) := by decide +kernel
theorem dX2_comes_72 : decode cX2_comes 72 = .ok (.iaload, 1) := by decide +kernel
theorem dX2_comes_73 : decode cX2_comes 73 = .ok (.if_icmp .gt 23, 3) := by decide +kernel
theorem dX2_comes_76 : decode cX2_comes 76 = .ok (.aload_n 0, 1) := by decide +kernel
theorem dX2_comes_77 : decode cX2_comes 77 = .ok (.getfield 41, 3) := by decide +kernel
theorem dX2_comes_80 : decode cX2_comes 80 = .ok (.bipush 8, 2) := by decide +kernel
theorem dX2_comes_82 : decode cX2_comes 82 = .ok (.iload 6, 2) := by decide +kernel
theorem dX2_comes_84 : decode cX2_comes 84 = .ok (.imul, 1) := by decide +kernel
theorem dX2_comes_85 : decode cX2_comes 85 = .ok (.iconst 1, 1) := by decide +kernel
theorem dX2_comes_86 : decode cX2_comes 86 = .ok (.iadd, 1) := by decide +kernel
theorem dX2_comes_87 : decode cX2_comes 87 = .ok (.iaload, 1) := by decide +kernel
theorem dX2_comes_88 : decode cX2_comes 88 = .ok (.iload_n 2, 1) := by decide +kernel
theorem dX2_comes_89 : decode cX2_comes 89 = .ok (.ishr, 1) := by decide +kernel
theorem dX2_comes_90 : decode cX2_comes 90 = .ok (.iconst 1, 1) := by decide +kernel
theorem dX2_comes_91 : decode cX2_comes 91 = .ok (.iand, 1) := by decide +kernel
theorem dX2_comes_92 : decode cX2_comes 92 = .ok (.iconst 1, 1) := by decide +kernel
theorem dX2_comes_93 : decode cX2_comes 93 = .ok (.if_icmp .ne 6, 3) := by decide +kernel
theorem dX2_comes_96 : decode cX2_comes 96 = .ok (.bipush 6, 2) := by decide +kernel
theorem dX2_comes_98 : decode cX2_comes 98 = .ok (.ireturn, 1) := by decide +kernel
theorem dX2_comes_99 : decode cX2_comes 99 = .ok (.aload_n 0, 1) := by decide +kernel
theorem dX2_comes_100 : decode cX2_comes 100 = .ok (.getfield 41, 3) := by decide +kernel
theorem dX2_comes_103 : decode cX2_comes 103 = .ok (.bipush 8, 2) := by decide +kernel
theorem dX2_comes_105 : decode cX2_comes 105 = .ok (.iload 6, 2) := by decide +kernel
theorem dX2_comes_107 : decode cX2_comes 107 = .ok (.imul, 1) := by decide +kernel
theorem dX2_comes_108 : decode cX2_comes 108 = .ok (.iconst 1, 1) := by decide +kernel
theorem dX2_comes_109 : decode cX2_comes 109 = .ok (.iadd, 1) := by decide +kernel
theorem dX2_comes_110 : decode cX2_comes 110 = .ok (.dup2, 1) := by decide +kernel
theorem dX2_comes_111 : decode cX2_comes 111 = .ok (.iaload, 1) := by decide +kernel
theorem dX2_comes_112 : decode cX2_comes 112 = .ok (.iconst 1, 1) := by decide +kernel
theorem dX2_comes_113 : decode cX2_comes 113 = .ok (.iload_n 2, 1) := by decide +kernel
theorem dX2_comes_114 : decode cX2_comes 114 = .ok (.ishl, 1) := by decide +kernel
theorem dX2_comes_115 : decode cX2_comes 115 = .ok (.ior, 1) := by decide +kernel
theorem dX2_comes_116 : decode cX2_comes 116 = .ok (.iastore, 1) := by decide +kernel
theorem dX2_comes_117 : decode cX2_comes 117 = .ok (.aload_n 0, 1) := by decide +kernel
theorem dX2_comes_118 : decode cX2_comes 118 = .ok (.getfield 41, 3) := by decide +kernel
theorem dX2_comes_121 : decode cX2_comes 121 = .ok (.bipush 8, 2) := by decide +kernel
theorem dX2_comes_123 : decode cX2_comes 123 = .ok (.iload 6, 2) := by decide +kernel
theorem dX2_comes_125 : decode cX2_comes 125 = .ok (.imul, 1) := by decide +kernel
theorem dX2_comes_126 : decode cX2_comes 126 = .ok (.iconst 3, 1) := by decide +kernel
theorem dX2_comes_127 : decode cX2_comes 127 = .ok (.iadd, 1) := by decide +kernel
theorem dX2_comes_128 : decode cX2_comes 128 = .ok (.dup2, 1) := by decide +kernel
theorem dX2_comes_129 : decode cX2_comes 129 = .ok (.iaload, 1) := by decide +kernel
theorem dX2_comes_130 : decode cX2_comes 130 = .ok (.iload 5, 2) := by decide +kernel
theorem dX2_comes_132 : decode cX2_comes 132 = .ok (.iadd, 1) := by decide +kernel
theorem dX2_comes_133 : decode cX2_comes 133 = .ok (.iastore, 1) := by decide +kernel
theorem dX2_comes_134 : decode cX2_comes 134 = .ok (.iconst 5, 1) := by decide +kernel
theorem dX2_comes_135 : decode cX2_comes 135 = .ok (.ireturn, 1) := by decide +kernel
theorem dX2_comes_136 : decode cX2_comes 136 = .ok (.aload_n 0, 1) := by decide +kernel
theorem dX2_comes_137 : decode cX2_comes 137 = .ok (.invokevirtual 100, 3) := by decide +kernel
theorem dX2_comes_140 : decode cX2_comes 140 = .ok (.bipush 24, 2) := by decide +kernel
theorem dX2_comes_142 : decode cX2_comes 142 = .ok (.if_icmp .ne 6, 3) := by decide +kernel
theorem dX2_comes_145 : decode cX2_comes 145 = .ok (.bipush 7, 2) := by decide +kernel
theorem dX2_comes_147 : decode cX2_comes 147 = .ok (.ireturn, 1) := by decide +kernel
theorem dX2_comes_148 : decode cX2_comes 148 = .ok (.aload_n 0, 1) := by decide +kernel
theorem dX2_comes_149 : decode cX2_comes 149 = .ok (.getfield 17, 3) := by decide +kernel
theorem dX2_comes_152 : decode cX2_comes 152 = .ok (.iload_n 1, 1) := by decide +kernel
theorem dX2_comes_153 : decode cX2_comes 153 = .ok (.aload_n 0, 1) := by decide +kernel
theorem dX2_comes_154 : decode cX2_comes 154 = .ok (.iload_n 1, 1) := by decide +kernel
theorem dX2_comes_155 : decode cX2_comes 155 = .ok (.invokevirtual 61, 3) := by decide +kernel
theorem dX2_comes_158 : decode cX2_comes 158 = .ok (.iastore, 1) := by decide +kernel
theorem dX2_comes_159 : decode cX2_comes 159 = .ok (.aload_n 0, 1) := by decide +kernel
theorem dX2_comes_160 : decode cX2_comes 160 = .ok (.getfield 20, 3) := by decide +kernel
theorem dX2_comes_163 : decode cX2_comes 163 = .ok (.iload_n 1, 1) := by decide +kernel
theorem dX2_comes_164 : decode cX2_comes 164 = .ok (.iconst 0, 1) := by decide +kernel
theorem dX2_comes_165 : decode cX2_comes 165 = .ok (.iastore, 1) := by decide +kernel
theorem dX2_comes_166 : decode cX2_comes 166 = .ok (.aload_n 0, 1) := by decide +kernel
theorem dX2_comes_167 : decode cX2_comes 167 = .ok (.getfield 23, 3) := by decide +kernel
theorem dX2_comes_170 : decode cX2_comes 170 = .ok (.iload_n 1, 1) := by decide +kernel
theorem dX2_comes_171 : decode cX2_comes 171 = .ok (.iload 4, 2) := by decide +kernel
theorem dX2_comes_173 : decode cX2_comes 173 = .ok (.iastore, 1) := by decide +kernel
theorem dX2_comes_174 : decode cX2_comes 174 = .ok (.aload_n 0, 1) := by decide +kernel
theorem dX2_comes_175 : decode cX2_comes 175 = .ok (.getfield 26, 3) := by decide +kernel
theorem dX2_comes_178 : decode cX2_comes 178 = .ok (.iload_n 1, 1) := by decide +kernel
theorem dX2_comes_179 : decode cX2_comes 179 = .ok (.iconst 0, 1) := by decide +kernel
theorem dX2_comes_180 : decode cX2_comes 180 = .ok (.iastore, 1) := by decide +kernel
theorem dX2_comes_181 : decode cX2_comes 181 = .ok (.aload_n 0, 1) := by decide +kernel
theorem dX2_comes_182 : decode cX2_comes 182 = .ok (.getfield 29, 3) := by decide +kernel
theorem dX2_comes_185 : decode cX2_comes 185 = .ok (.iload_n 1, 1) := by decide +kernel
theorem dX2_comes_186 : decode cX2_comes 186 = .ok (.bipush (-9), 2) := by decide +kernel
theorem dX2_comes_188 : decode cX2_comes 188 = .ok (.iastore, 1) := by decide +kernel
theorem dX2_comes_189 : decode cX2_comes 189 = .ok (.aload_n 0, 1) := by decide +kernel
theorem dX2_comes_190 : decode cX2_comes 190 = .ok (.getfield 32, 3) := by decide +kernel
theorem dX2_comes_193 : decode cX2_comes 193 = .ok (.iload_n 1, 1) := by decide +kernel
theorem dX2_comes_194 : decode cX2_comes 194 = .ok (.aload_n 0, 1) := by decide +kernel
theorem dX2_comes_195 : decode cX2_comes 195 = .ok (.getfield 79, 3) := by decide +kernel
theorem dX2_comes_198 : decode cX2_comes 198 = .ok (.iastore, 1) := by decide +kernel
theorem dX2_comes_199 : decode cX2_comes 199 = .ok (.aload_n 0, 1) := by decide +kernel
theorem dX2_comes_200 : decode cX2_comes 200 = .ok (.iload_n 1, 1) := by decide +kernel
theorem dX2_comes_201 : decode cX2_comes 201 = .ok (.iload_n 2, 1) := by decide +kernel
theorem dX2_comes_202 : decode cX2_comes 202 = .ok (.iload_n 3, 1) := by decide +kernel
theorem dX2_comes_203 : decode cX2_comes 203 = .ok (.iload 5, 2) := by decide +kernel
theorem dX2_comes_205 : decode cX2_comes 205 = .ok (.invokevirtual 89, 3) := by decide +kernel
theorem dX2_comes_208 : decode cX2_comes 208 = .ok (.ireturn, 1) := by decide +kernel
theorem dX2_piece_0 : decode cX2_piece 0 = .ok (.aload_n 0, 1) := by decide +kernel
theorem dX2_piece_1 : decode cX2_piece 1 = .ok (.iconst 0, 1) := by decide +kernel
theorem dX2_piece_2 : decode cX2_piece 2 = .ok (.putfield 53, 3) := by decide +kernel
theorem dX2_piece_5 : decode cX2_piece 5 = .ok (.iload_n 1, 1) := by decide +kernel
theorem dX2_piece_6 : decode cX2_piece 6 = .ok (.iconst 0, 1) := by decide +kernel
theorem dX2_piece_7 : decode cX2_piece 7 = .ok (.bipush 99, 2) := by decide +kernel
theorem dX2_piece_9 : decode cX2_piece 9 = .ok (.invokestatic 57, 3) := by decide +kernel
theorem dX2_piece_12 : decode cX2_piece 12 = .ok (.ifCond .eq 35, 3) := by decide +kernel
theorem dX2_piece_15 : decode cX2_piece 15 = .ok (.iload_n 2, 1) := by decide +kernel
theorem dX2_piece_16 : decode cX2_piece 16 = .ok (.iconst 0, 1) := by decide +kernel
theorem dX2_piece_17 : decode cX2_piece 17 = .ok (.bipush 7, 2) := by decide +kernel
theorem dX2_piece_19 : decode cX2_piece 19 = .ok (.invokestatic 57, 3) := by decide +kernel
theorem dX2_piece_22 : decode cX2_piece 22 = .ok (.ifCond .eq 25, 3) := by decide +kernel
theorem dX2_piece_25 : decode cX2_piece 25 = .ok (.iload 4, 2) := by decide +kernel
theorem dX2_piece_27 : decode cX2_piece 27 = .ok (.iconst 0, 1) := by decide +kernel
theorem dX2_piece_28 : decode cX2_piece 28 = .ok (.iconst 4, 1) := by decide +kernel
theorem dX2_piece_29 : decode cX2_piece 29 = .ok (.invokestatic 57, 3) := by decide +kernel
theorem dX2_piece_32 : decode cX2_piece 32 = .ok (.ifCond .eq 15, 3) := by decide +kernel
theorem dX2_piece_35 : decode cX2_piece 35 = .ok (.iload 5, 2) := by decide +kernel
theorem dX2_piece_37 : decode cX2_piece 37 = .ok (.iconst 1, 1) := by decide +kernel
theorem dX2_piece_38 : decode cX2_piece 38 = .ok (.sipush 1000, 3) := by decide +kernel
theorem dX2_piece_41 : decode cX2_piece 41 = .ok (.invokestatic 57, 3) := by decide +kernel
theorem dX2_piece_44 : decode cX2_piece 44 = .ok (.ifCond .ne 5, 3) := by decide +kernel
theorem dX2_piece_47 : decode cX2_piece 47 = .ok (.iconst (-1), 1) := by decide +kernel
theorem dX2_piece_48 : decode cX2_piece 48 = .ok (.ireturn, 1) := by decide +kernel
theorem dX2_piece_49 : decode cX2_piece 49 = .ok (.aload_n 0, 1) := by decide +kernel
theorem dX2_piece_50 : decode cX2_piece 50 = .ok (.iload_n 1, 1) := by decide +kernel
theorem dX2_piece_51 : decode cX2_piece 51 = .ok (.iload_n 2, 1) := by decide +kernel
theorem dX2_piece_52 : decode cX2_piece 52 = .ok (.iload_n 3, 1) := by decide +kernel
theorem dX2_piece_53 : decode cX2_piece 53 = .ok (.iload 4, 2) := by decide +kernel
theorem dX2_piece_55 : decode cX2_piece 55 = .ok (.iload 5, 2) := by decide +kernel
theorem dX2_piece_57 : decode cX2_piece 57 = .ok (.invokevirtual 104, 3) := by decide +kernel
theorem dX2_piece_60 : decode cX2_piece 60 = .ok (.istore 6, 2) := by decide +kernel
theorem dX2_piece_62 : decode cX2_piece 62 = .ok (.iload 6, 2) := by decide +kernel
theorem dX2_piece_64 : decode cX2_piece 64 = .ok (.iconst 3, 1) := by decide +kernel
theorem dX2_piece_65 : decode cX2_piece 65 = .ok (.if_icmp .lt 16, 3) := by decide +kernel
theorem dX2_piece_68 : decode cX2_piece 68 = .ok (.aload_n 0, 1) := by decide +kernel
theorem dX2_piece_69 : decode cX2_piece 69 = .ok (.getfield 50, 3) := by decide +kernel
theorem dX2_piece_72 : decode cX2_piece 72 = .ok (.iload 6, 2) := by decide +kernel
theorem dX2_piece_74 : decode cX2_piece 74 = .ok (.iconst 2, 1) := by decide +kernel
theorem dX2_piece_75 : decode cX2_piece 75 = .ok (.iadd, 1) := by decide +kernel
theorem dX2_piece_76 : decode cX2_piece 76 = .ok (.dup2, 1) := by decide +kernel
theorem dX2_piece_77 : decode cX2_piece 77 = .ok (.iaload, 1) := by decide +kernel
theorem dX2_piece_78 : decode cX2_piece 78 = .ok (.iconst 1, 1) := by decide +kernel
theorem dX2_piece_79 : decode cX2_piece 79 = .ok (.iadd, 1) := by decide +kernel
theorem dX2_piece_80 : decode cX2_piece 80 = .ok (.iastore, 1) := by decide +kernel
theorem dX2_piece_81 : decode cX2_piece 81 = .ok (.iload 6, 2) := by decide +kernel
theorem dX2_piece_83 : decode cX2_piece 83 = .ok (.ireturn, 1) := by decide +kernel
theorem dX2_tick_0 : decode cX2_tick 0 = .ok (.aload_n 0, 1) := by decide +kernel
theorem dX2_tick_1 : decode cX2_tick 1 = .ok (.iconst 0, 1) := by decide +kernel
theorem dX2_tick_2 : decode cX2_tick 2 = .ok (.putfield 53, 3) := by decide +kernel
theorem dX2_tick_5 : decode cX2_tick 5 = .ok (.iload_n 1, 1) := by decide +kernel
theorem dX2_tick_6 : decode cX2_tick 6 = .ok (.iconst 1, 1) := by decide +kernel
theorem dX2_tick_7 : decode cX2_tick 7 = .ok (.bipush 60, 2) := by decide +kernel
theorem dX2_tick_9 : decode cX2_tick 9 = .ok (.invokestatic 57, 3) := by decide +kernel
theorem dX2_tick_12 : decode cX2_tick 12 = .ok (.ifCond .ne 5, 3) := by decide +kernel
theorem dX2_tick_15 : decode cX2_tick 15 = .ok (.iconst (-1), 1) := by decide +kernel
theorem dX2_tick_16 : decode cX2_tick 16 = .ok (.ireturn, 1) := by decide +kernel
theorem dX2_tick_17 : decode cX2_tick 17 = .ok (.aload_n 0, 1) := by decide +kernel
theorem dX2_tick_18 : decode cX2_tick 18 = .ok (.getfield 50, 3) := by decide +kernel
theorem dX2_tick_21 : decode cX2_tick 21 = .ok (.bipush 10, 2) := by decide +kernel
theorem dX2_tick_23 : decode cX2_tick 23 = .ok (.iaload, 1) := by decide +kernel
theorem dX2_tick_24 : decode cX2_tick 24 = .ok (.istore_n 2, 1) := by decide +kernel
theorem dX2_tick_25 : decode cX2_tick 25 = .ok (.iconst 0, 1) := by decide +kernel
theorem dX2_tick_26 : decode cX2_tick 26 = .ok (.istore_n 3, 1) := by decide +kernel
theorem dX2_tick_27 : decode cX2_tick 27 = .ok (.iload_n 3, 1) := by decide +kernel
theorem dX2_tick_28 : decode cX2_tick 28 = .ok (.iload_n 1, 1) := by decide +kernel
theorem dX2_tick_29 : decode cX2_tick 29 = .ok (.if_icmp .ge 75, 3) := by decide +kernel
theorem dX2_tick_32 : decode cX2_tick 32 = .ok (.aload_n 0, 1) := by decide +kernel
theorem dX2_tick_33 : decode cX2_tick 33 = .ok (.dup, 1) := by decide +kernel
theorem dX2_tick_34 : decode cX2_tick 34 = .ok (.getfield 79, 3) := by decide +kernel
theorem dX2_tick_37 : decode cX2_tick 37 = .ok (.iconst 1, 1) := by decide +kernel
theorem dX2_tick_38 : decode cX2_tick 38 = .ok (.iadd, 1) := by decide +kernel
theorem dX2_tick_39 : decode cX2_tick 39 = .ok (.putfield 79, 3) := by decide +kernel
theorem dX2_tick_42 : decode cX2_tick 42 = .ok (.iconst 0, 1) := by decide +kernel
theorem dX2_tick_43 : decode cX2_tick 43 = .ok (.istore 4, 2) := by decide +kernel
theorem dX2_tick_45 : decode cX2_tick 45 = .ok (.iload 4, 2) := by decide +kernel
theorem dX2_tick_47 : decode cX2_tick 47 = .ok (.bipush 100, 2) := by decide +kernel
theorem dX2_tick_49 : decode cX2_tick 49 = .ok (.if_icmp .ge 49, 3) := by decide +kernel
theorem dX2_tick_52 : decode cX2_tick 52 = .ok (.aload_n 0, 1) := by decide +kernel
theorem dX2_tick_53 : decode cX2_tick 53 = .ok (.getfield 17, 3) := by decide +kernel
theorem dX2_tick_56 : decode cX2_tick 56 = .ok (.iload 4, 2) := by decide +kernel
theorem dX2_tick_58 : decode cX2_tick 58 = .ok (.iaload, 1) := by decide +kernel
theorem dX2_tick_59 : decode cX2_tick 59 = .ok (.bipush (-9), 2) := by decide +kernel
theorem dX2_tick_61 : decode cX2_tick 61 = .ok (.if_icmp .eq 31, 3) := by decide +kernel
theorem dX2_tick_64 : decode cX2_tick 64 = .ok (.aload_n 0, 1) := by decide +kernel
theorem dX2_tick_65 : decode cX2_tick 65 = .ok (.getfield 79, 3) := by decide +kernel
theorem dX2_tick_68 : decode cX2_tick 68 = .ok (.aload_n 0, 1) := by decide +kernel
theorem dX2_tick_69 : decode cX2_tick 69 = .ok (.getfield 32, 3) := by decide +kernel
theorem dX2_tick_72 : decode cX2_tick 72 = .ok (.iload 4, 2) := by decide +kernel
theorem dX2_tick_74 : decode cX2_tick 74 = .ok (.iaload, 1) := by decide +kernel
theorem dX2_tick_75 : decode cX2_tick 75 = .ok (.isub, 1) := by decide +kernel
theorem dX2_tick_76 : decode cX2_tick 76 = .ok (.aload_n 0, 1) := by decide +kernel
theorem dX2_tick_77 : decode cX2_tick 77 = .ok (.getfield 13, 3) := by decide +kernel
theorem dX2_tick_80 : decode cX2_tick 80 = .ok (.iconst 4, 1) := by decide +kernel
theorem dX2_tick_81 : decode cX2_tick 81 = .ok (.iaload, 1) := by decide +kernel
theorem dX2_tick_82 : decode cX2_tick 82 = .ok (.if_icmp .lt 10, 3) := by decide +kernel
theorem dX2_tick_85 : decode cX2_tick 85 = .ok (.aload_n 0, 1) := by decide +kernel
theorem dX2_tick_86 : decode cX2_tick 86 = .ok (.iload 4, 2) := by decide +kernel
theorem dX2_tick_88 : decode cX2_tick 88 = .ok (.iconst 1, 1) := by decide +kernel
theorem dX2_tick_89 : decode cX2_tick 89 = .ok (.invokevirtual 85, 3) := by decide +kernel
theorem dX2_tick_92 : decode cX2_tick 92 = .ok (.iinc 4 1, 3) := by decide +kernel
theorem dX2_tick_95 : decode cX2_tick 95 = .ok (.goto (-50), 3) := by decide +kernel
theorem dX2_tick_98 : decode cX2_tick 98 = .ok (.iinc 3 1, 3) := by decide +kernel
theorem dX2_tick_101 : decode cX2_tick 101 = .ok (.goto (-74), 3) := by decide +kernel
theorem dX2_tick_104 : decode cX2_tick 104 = .ok (.aload_n 0, 1) := by decide +kernel
theorem dX2_tick_105 : decode cX2_tick 105 = .ok (.getfield 50, 3) := by decide +kernel
theorem dX2_tick_108 : decode cX2_tick 108 = .ok (.bipush 10, 2) := by decide +kernel
theorem dX2_tick_110 : decode cX2_tick 110 = .ok (.iaload, 1) := by decide +kernel
theorem dX2_tick_111 : decode cX2_tick 111 = .ok (.iload_n 2, 1) := by decide +kernel
theorem dX2_tick_112 : decode cX2_tick 112 = .ok (.isub, 1) := by decide +kernel
theorem dX2_tick_113 : decode cX2_tick 113 = .ok (.ireturn, 1) := by decide +kernel
theorem dX2_waits_0 : decode cX2_waits 0 = .ok (.aload_n 0, 1) := by decide +kernel
theorem dX2_waits_1 : decode cX2_waits 1 = .ok (.iconst 0, 1) := by decide +kernel
theorem dX2_waits_2 : decode cX2_waits 2 = .ok (.putfield 53, 3) := by decide +kernel
theorem dX2_waits_5 : decode cX2_waits 5 = .ok (.iload_n 1, 1) := by decide +kernel
theorem dX2_waits_6 : decode cX2_waits 6 = .ok (.iconst 0, 1) := by decide +kernel
theorem dX2_waits_7 : decode cX2_waits 7 = .ok (.bipush 99, 2) := by decide +kernel
theorem dX2_waits_9 : decode cX2_waits 9 = .ok (.invokestatic 57, 3) := by decide +kernel
theorem dX2_waits_12 : decode cX2_waits 12 = .ok (.ifCond .eq 12, 3) := by decide +kernel
theorem dX2_waits_15 : decode cX2_waits 15 = .ok (.iload_n 2, 1) := by decide +kernel
theorem dX2_waits_16 : decode cX2_waits 16 = .ok (.iconst 0, 1) := by decide +kernel
theorem dX2_waits_17 : decode cX2_waits 17 = .ok (.iconst 5, 1) := by decide +kernel
theorem dX2_waits_18 : decode cX2_waits 18 = .ok (.invokestatic 57, 3) := by decide +kernel
theorem dX2_waits_21 : decode cX2_waits 21 = .ok (.ifCond .ne 5, 3) := by decide +kernel
theorem dX2_waits_24 : decode cX2_waits 24 = .ok (.iconst (-1), 1) := by decide +kernel
theorem dX2_waits_25 : decode cX2_waits 25 = .ok (.ireturn, 1) := by decide +kernel
theorem dX2_waits_26 : decode cX2_waits 26 = .ok (.aload_n 0, 1) := by decide +kernel
theorem dX2_waits_27 : decode cX2_waits 27 = .ok (.getfield 17, 3) := by decide +kernel
theorem dX2_waits_30 : decode cX2_waits 30 = .ok (.iload_n 1, 1) := by decide +kernel
theorem dX2_waits_31 : decode cX2_waits 31 = .ok (.iaload, 1) := by decide +kernel
theorem dX2_waits_32 : decode cX2_waits 32 = .ok (.bipush (-9), 2) := by decide +kernel
theorem dX2_waits_34 : decode cX2_waits 34 = .ok (.if_icmp .ne 6, 3) := by decide +kernel
theorem dX2_waits_37 : decode cX2_waits 37 = .ok (.bipush (-9), 2) := by decide +kernel
theorem dX2_waits_39 : decode cX2_waits 39 = .ok (.ireturn, 1) := by decide +kernel
theorem dX2_waits_40 : decode cX2_waits 40 = .ok (.iload_n 2, 1) := by decide +kernel
theorem dX2_waits_41 : decode cX2_waits 41 = .ok (.tableswitch 70 0 4 #[35, 42, 49, 56, 63], 35) := by decide +kernel
theorem dX2_waits_76 : decode cX2_waits 76 = .ok (.aload_n 0, 1) := by decide +kernel
theorem dX2_waits_77 : decode cX2_waits 77 = .ok (.getfield 17, 3) := by decide +kernel
theorem dX2_waits_80 : decode cX2_waits 80 = .ok (.iload_n 1, 1) := by decide +kernel
theorem dX2_waits_81 : decode cX2_waits 81 = .ok (.iaload, 1) := by decide +kernel
theorem dX2_waits_82 : decode cX2_waits 82 = .ok (.ireturn, 1) := by decide +kernel
theorem dX2_waits_83 : decode cX2_waits 83 = .ok (.aload_n 0, 1) := by decide +kernel
theorem dX2_waits_84 : decode cX2_waits 84 = .ok (.getfield 20, 3) := by decide +kernel
theorem dX2_waits_87 : decode cX2_waits 87 = .ok (.iload_n 1, 1) := by decide +kernel
theorem dX2_waits_88 : decode cX2_waits 88 = .ok (.iaload, 1) := by decide +kernel
theorem dX2_waits_89 : decode cX2_waits 89 = .ok (.ireturn, 1) := by decide +kernel
theorem dX2_waits_90 : decode cX2_waits 90 = .ok (.aload_n 0, 1) := by decide +kernel
theorem dX2_waits_91 : decode cX2_waits 91 = .ok (.getfield 23, 3) := by decide +kernel
theorem dX2_waits_94 : decode cX2_waits 94 = .ok (.iload_n 1, 1) := by decide +kernel
theorem dX2_waits_95 : decode cX2_waits 95 = .ok (.iaload, 1) := by decide +kernel
theorem dX2_waits_96 : decode cX2_waits 96 = .ok (.ireturn, 1) := by decide +kernel
theorem dX2_waits_97 : decode cX2_waits 97 = .ok (.aload_n 0, 1) := by decide +kernel
theorem dX2_waits_98 : decode cX2_waits 98 = .ok (.getfield 26, 3) := by decide +kernel
theorem dX2_waits_101 : decode cX2_waits 101 = .ok (.iload_n 1, 1) := by decide +kernel
theorem dX2_waits_102 : decode cX2_waits 102 = .ok (.iaload, 1) := by decide +kernel
theorem dX2_waits_103 : decode cX2_waits 103 = .ok (.ireturn, 1) := by decide +kernel
theorem dX2_waits_104 : decode cX2_waits 104 = .ok (.aload_n 0, 1) := by decide +kernel
theorem dX2_waits_105 : decode cX2_waits 105 = .ok (.getfield 29, 3) := by decide +kernel
theorem dX2_waits_108 : decode cX2_waits 108 = .ok (.iload_n 1, 1) := by decide +kernel
theorem dX2_waits_109 : decode cX2_waits 109 = .ok (.iaload, 1) := by decide +kernel
theorem dX2_waits_110 : decode cX2_waits 110 = .ok (.ireturn, 1) := by decide +kernel
theorem dX2_waits_111 : decode cX2_waits 111 = .ok (.aload_n 0, 1) := by decide +kernel
theorem dX2_waits_112 : decode cX2_waits 112 = .ok (.getfield 79, 3) := by decide +kernel
theorem dX2_waits_115 : decode cX2_waits 115 = .ok (.aload_n 0, 1) := by decide +kernel
theorem dX2_waits_116 : decode cX2_waits 116 = .ok (.getfield 32, 3) := by decide +kernel
theorem dX2_waits_119 : decode cX2_waits 119 = .ok (.iload_n 1, 1) := by decide +kernel
theorem dX2_waits_120 : decode cX2_waits 120 = .ok (.iaload, 1) := by decide +kernel
theorem dX2_waits_121 : decode cX2_waits 121 = .ok (.isub, 1) := by decide +kernel
theorem dX2_waits_122 : decode cX2_waits 122 = .ok (.ireturn, 1) := by decide +kernel
theorem dX2_remembered_0 : decode cX2_remembered 0 = .ok (.aload_n 0, 1) := by decide +kernel
theorem dX2_remembered_1 : decode cX2_remembered 1 = .ok (.iconst 0, 1) := by decide +kernel
theorem dX2_remembered_2 : decode cX2_remembered 2 = .ok (.putfield 53, 3) := by decide +kernel
theorem dX2_remembered_5 : decode cX2_remembered 5 = .ok (.iload_n 1, 1) := by decide +kernel
theorem dX2_remembered_6 : decode cX2_remembered 6 = .ok (.iconst 0, 1) := by decide +kernel
theorem dX2_remembered_7 : decode cX2_remembered 7 = .ok (.bipush 99, 2) := by decide +kernel
theorem dX2_remembered_9 : decode cX2_remembered 9 = .ok (.invokestatic 57, 3) := by decide +kernel
theorem dX2_remembered_12 : decode cX2_remembered 12 = .ok (.ifCond .ne 5, 3) := by decide +kernel
theorem dX2_remembered_15 : decode cX2_remembered 15 = .ok (.iconst (-1), 1) := by decide +kernel
theorem dX2_remembered_16 : decode cX2_remembered 16 = .ok (.ireturn, 1) := by decide +kernel
theorem dX2_remembered_17 : decode cX2_remembered 17 = .ok (.aload_n 0, 1) := by decide +kernel
theorem dX2_remembered_18 : decode cX2_remembered 18 = .ok (.iload_n 1, 1) := by decide +kernel
theorem dX2_remembered_19 : decode cX2_remembered 19 = .ok (.invokevirtual 93, 3) := by decide +kernel
theorem dX2_remembered_22 : decode cX2_remembered 22 = .ok (.ifCond .ne 8, 3) := by decide +kernel
theorem dX2_remembered_25 : decode cX2_remembered 25 = .ok (.bipush (-9), 2) := by decide +kernel
theorem dX2_remembered_27 : decode cX2_remembered 27 = .ok (.goto 18, 3) := by decide +kernel
theorem dX2_remembered_30 : decode cX2_remembered 30 = .ok (.aload_n 0, 1) := by decide +kernel
theorem dX2_remembered_31 : decode cX2_remembered 31 = .ok (.iload_n 1, 1) := by decide +kernel
theorem dX2_remembered_32 : decode cX2_remembered 32 = .ok (.invokevirtual 97, 3) := by decide +kernel
theorem dX2_remembered_35 : decode cX2_remembered 35 = .ok (.bipush (-9), 2) := by decide +kernel
theorem dX2_remembered_37 : decode cX2_remembered 37 = .ok (.if_icmp .ne 7, 3) := by decide +kernel
theorem dX2_remembered_40 : decode cX2_remembered 40 = .ok (.iconst 0, 1) := by decide +kernel
theorem dX2_remembered_41 : decode cX2_remembered 41 = .ok (.goto 4, 3) := by decide +kernel
theorem dX2_remembered_44 : decode cX2_remembered 44 = .ok (.iconst 1, 1) := by decide +kernel
theorem dX2_remembered_45 : decode cX2_remembered 45 = .ok (.ireturn, 1) := by decide +kernel
theorem dX2_kept_0 : decode cX2_kept 0 = .ok (.aload_n 0, 1) := by decide +kernel
theorem dX2_kept_1 : decode cX2_kept 1 = .ok (.iconst 0, 1) := by decide +kernel
theorem dX2_kept_2 : decode cX2_kept 2 = .ok (.putfield 53, 3) := by decide +kernel
theorem dX2_kept_5 : decode cX2_kept 5 = .ok (.iload_n 1, 1) := by decide +kernel
theorem dX2_kept_6 : decode cX2_kept 6 = .ok (.iconst 0, 1) := by decide +kernel
theorem dX2_kept_7 : decode cX2_kept 7 = .ok (.aload_n 0, 1) := by decide +kernel
theorem dX2_kept_8 : decode cX2_kept 8 = .ok (.getfield 82, 3) := by decide +kernel
theorem dX2_kept_11 : decode cX2_kept 11 = .ok (.iconst 1, 1) := by decide +kernel
theorem dX2_kept_12 : decode cX2_kept 12 = .ok (.isub, 1) := by decide +kernel
theorem dX2_kept_13 : decode cX2_kept 13 = .ok (.invokestatic 57, 3) := by decide +kernel
theorem dX2_kept_16 : decode cX2_kept 16 = .ok (.ifCond .eq 27, 3) := by decide +kernel
theorem dX2_kept_19 : decode cX2_kept 19 = .ok (.iload_n 2, 1) := by decide +kernel
theorem dX2_kept_20 : decode cX2_kept 20 = .ok (.iconst 0, 1) := by decide +kernel
theorem dX2_kept_21 : decode cX2_kept 21 = .ok (.bipush 6, 2) := by decide +kernel
theorem dX2_kept_23 : decode cX2_kept 23 = .ok (.invokestatic 57, 3) := by decide +kernel
theorem dX2_kept_26 : decode cX2_kept 26 = .ok (.ifCond .eq 17, 3) := by decide +kernel
theorem dX2_kept_29 : decode cX2_kept 29 = .ok (.aload_n 0, 1) := by decide +kernel
theorem dX2_kept_30 : decode cX2_kept 30 = .ok (.getfield 41, 3) := by decide +kernel
theorem dX2_kept_33 : decode cX2_kept 33 = .ok (.bipush 8, 2) := by decide +kernel
theorem dX2_kept_35 : decode cX2_kept 35 = .ok (.iload_n 1, 1) := by decide +kernel
theorem dX2_kept_36 : decode cX2_kept 36 = .ok (.imul, 1) := by decide +kernel
theorem dX2_kept_37 : decode cX2_kept 37 = .ok (.iload_n 2, 1) := by decide +kernel
theorem dX2_kept_38 : decode cX2_kept 38 = .ok (.iadd, 1) := by decide +kernel
theorem dX2_kept_39 : decode cX2_kept 39 = .ok (.iaload, 1) := by decide +kernel
theorem dX2_kept_40 : decode cX2_kept 40 = .ok (.goto 4, 3) := by decide +kernel
theorem dX2_kept_43 : decode cX2_kept 43 = .ok (.iconst (-1), 1) := by decide +kernel
theorem dX2_kept_44 : decode cX2_kept 44 = .ok (.ireturn, 1) := by decide +kernel
theorem dX2_take_0 : decode cX2_take 0 = .ok (.aload_n 0, 1) := by decide +kernel
theorem dX2_take_1 : decode cX2_take 1 = .ok (.iconst 0, 1) := by decide +kernel
theorem dX2_take_2 : decode cX2_take 2 = .ok (.putfield 53, 3) := by decide +kernel
theorem dX2_take_5 : decode cX2_take 5 = .ok (.iload_n 1, 1) := by decide +kernel
theorem dX2_take_6 : decode cX2_take 6 = .ok (.iconst 0, 1) := by decide +kernel
theorem dX2_take_7 : decode cX2_take 7 = .ok (.aload_n 0, 1) := by decide +kernel
theorem dX2_take_8 : decode cX2_take 8 = .ok (.getfield 82, 3) := by decide +kernel
theorem dX2_take_11 : decode cX2_take 11 = .ok (.iconst 1, 1) := by decide +kernel
theorem dX2_take_12 : decode cX2_take 12 = .ok (.isub, 1) := by decide +kernel
theorem dX2_take_13 : decode cX2_take 13 = .ok (.invokestatic 57, 3) := by decide +kernel
theorem dX2_take_16 : decode cX2_take 16 = .ok (.ifCond .ne 5, 3) := by decide +kernel
theorem dX2_take_19 : decode cX2_take 19 = .ok (.iconst (-1), 1) := by decide +kernel
theorem dX2_take_20 : decode cX2_take 20 = .ok (.ireturn, 1) := by decide +kernel
theorem dX2_take_21 : decode cX2_take 21 = .ok (.aload_n 0, 1) := by decide +kernel
theorem dX2_take_22 : decode cX2_take 22 = .ok (.getfield 41, 3) := by decide +kernel
theorem dX2_take_25 : decode cX2_take 25 = .ok (.bipush 8, 2) := by decide +kernel
theorem dX2_take_27 : decode cX2_take 27 = .ok (.iload_n 1, 1) := by decide +kernel
theorem dX2_take_28 : decode cX2_take 28 = .ok (.imul, 1) := by decide +kernel
theorem dX2_take_29 : decode cX2_take 29 = .ok (.iaload, 1) := by decide +kernel
theorem dX2_take_30 : decode cX2_take 30 = .ok (.istore_n 2, 1) := by decide +kernel
theorem dX2_take_31 : decode cX2_take 31 = .ok (.aload_n 0, 1) := by decide +kernel
theorem dX2_take_32 : decode cX2_take 32 = .ok (.getfield 41, 3) := by decide +kernel
theorem dX2_take_35 : decode cX2_take 35 = .ok (.bipush 8, 2) := by decide +kernel
theorem dX2_take_37 : decode cX2_take 37 = .ok (.iload_n 1, 1) := by decide +kernel
theorem dX2_take_38 : decode cX2_take 38 = .ok (.imul, 1) := by decide +kernel
theorem dX2_take_39 : decode cX2_take 39 = .ok (.iconst 2, 1) := by decide +kernel
theorem dX2_take_40 : decode cX2_take 40 = .ok (.iadd, 1) := by decide +kernel
theorem dX2_take_41 : decode cX2_take 41 = .ok (.iaload, 1) := by decide +kernel
theorem dX2_take_42 : decode cX2_take 42 = .ok (.istore_n 3, 1) := by decide +kernel
theorem dX2_take_43 : decode cX2_take 43 = .ok (.aload_n 0, 1) := by decide +kernel
theorem dX2_take_44 : decode cX2_take 44 = .ok (.getfield 41, 3) := by decide +kernel
theorem dX2_take_47 : decode cX2_take 47 = .ok (.bipush 8, 2) := by decide +kernel
theorem dX2_take_49 : decode cX2_take 49 = .ok (.iload_n 1, 1) := by decide +kernel
theorem dX2_take_50 : decode cX2_take 50 = .ok (.imul, 1) := by decide +kernel
theorem dX2_take_51 : decode cX2_take 51 = .ok (.iconst 4, 1) := by decide +kernel
theorem dX2_take_52 : decode cX2_take 52 = .ok (.iadd, 1) := by decide +kernel
theorem dX2_take_53 : decode cX2_take 53 = .ok (.iaload, 1) := by decide +kernel
theorem dX2_take_54 : decode cX2_take 54 = .ok (.istore 4, 2) := by decide +kernel
theorem dX2_take_56 : decode cX2_take 56 = .ok (.aload_n 0, 1) := by decide +kernel
theorem dX2_take_57 : decode cX2_take 57 = .ok (.getfield 44, 3) := by decide +kernel
theorem dX2_take_60 : decode cX2_take 60 = .ok (.bipush 7, 2) := by decide +kernel
theorem dX2_take_62 : decode cX2_take 62 = .ok (.iload_n 3, 1) := by decide +kernel
theorem dX2_take_63 : decode cX2_take 63 = .ok (.imul, 1) := by decide +kernel
theorem dX2_take_64 : decode cX2_take 64 = .ok (.iconst 1, 1) := by decide +kernel
theorem dX2_take_65 : decode cX2_take 65 = .ok (.iadd, 1) := by decide +kernel
theorem dX2_take_66 : decode cX2_take 66 = .ok (.dup2, 1) := by decide +kernel
theorem dX2_take_67 : decode cX2_take 67 = .ok (.iaload, 1) := by decide +kernel
theorem dX2_take_68 : decode cX2_take 68 = .ok (.iload 4, 2) := by decide +kernel
theorem dX2_take_70 : decode cX2_take 70 = .ok (.isub, 1) := by decide +kernel
theorem dX2_take_71 : decode cX2_take 71 = .ok (.iastore, 1) := by decide +kernel
theorem dX2_take_72 : decode cX2_take 72 = .ok (.aload_n 0, 1) := by decide +kernel
theorem dX2_take_73 : decode cX2_take 73 = .ok (.getfield 44, 3) := by decide +kernel
theorem dX2_take_76 : decode cX2_take 76 = .ok (.bipush 7, 2) := by decide +kernel
theorem dX2_take_78 : decode cX2_take 78 = .ok (.iload_n 3, 1) := by decide +kernel
theorem dX2_take_79 : decode cX2_take 79 = .ok (.imul, 1) := by decide +kernel
theorem dX2_take_80 : decode cX2_take 80 = .ok (.iconst 2, 1) := by decide +kernel
theorem dX2_take_81 : decode cX2_take 81 = .ok (.iadd, 1) := by decide +kernel
theorem dX2_take_82 : decode cX2_take 82 = .ok (.dup2, 1) := by decide +kernel
theorem dX2_take_83 : decode cX2_take 83 = .ok (.iaload, 1) := by decide +kernel
theorem dX2_take_84 : decode cX2_take 84 = .ok (.iload 4, 2) := by decide +kernel
theorem dX2_take_86 : decode cX2_take 86 = .ok (.iadd, 1) := by decide +kernel
theorem dX2_take_87 : decode cX2_take 87 = .ok (.iastore, 1) := by decide +kernel
theorem dX2_take_88 : decode cX2_take 88 = .ok (.aload_n 0, 1) := by decide +kernel
theorem dX2_take_89 : decode cX2_take 89 = .ok (.getfield 35, 3) := by decide +kernel
theorem dX2_take_92 : decode cX2_take 92 = .ok (.iload_n 2, 1) := by decide +kernel
theorem dX2_take_93 : decode cX2_take 93 = .ok (.iaload, 1) := by decide +kernel
theorem dX2_take_94 : decode cX2_take 94 = .ok (.aload_n 0, 1) := by decide +kernel
theorem dX2_take_95 : decode cX2_take 95 = .ok (.getfield 41, 3) := by decide +kernel
theorem dX2_take_98 : decode cX2_take 98 = .ok (.bipush 8, 2) := by decide +kernel
theorem dX2_take_100 : decode cX2_take 100 = .ok (.iload_n 1, 1) := by decide +kernel
theorem dX2_take_101 : decode cX2_take 101 = .ok (.imul, 1) := by decide +kernel
theorem dX2_take_102 : decode cX2_take 102 = .ok (.bipush 7, 2) := by decide +kernel
theorem dX2_take_104 : decode cX2_take 104 = .ok (.iadd, 1) := by decide +kernel
theorem dX2_take_105 : decode cX2_take 105 = .ok (.iaload, 1) := by decide +kernel
theorem dX2_take_106 : decode cX2_take 106 = .ok (.if_icmp .ne 10, 3) := by decide +kernel
theorem dX2_take_109 : decode cX2_take 109 = .ok (.aload_n 0, 1) := by decide +kernel
theorem dX2_take_110 : decode cX2_take 110 = .ok (.getfield 35, 3) := by decide +kernel
theorem dX2_take_113 : decode cX2_take 113 = .ok (.iload_n 2, 1) := by decide +kernel
theorem dX2_take_114 : decode cX2_take 114 = .ok (.iconst 0, 1) := by decide +kernel
theorem dX2_take_115 : decode cX2_take 115 = .ok (.iastore, 1) := by decide +kernel
theorem dX2_take_116 : decode cX2_take 116 = .ok (.bipush 8, 2) := by decide +kernel
theorem dX2_take_118 : decode cX2_take 118 = .ok (.iload_n 1, 1) := by decide +kernel
theorem dX2_take_119 : decode cX2_take 119 = .ok (.imul, 1) := by decide +kernel
theorem dX2_take_120 : decode cX2_take 120 = .ok (.istore 5, 2) := by decide +kernel
theorem dX2_take_122 : decode cX2_take 122 = .ok (.iload 5, 2) := by decide +kernel
theorem dX2_take_124 : decode cX2_take 124 = .ok (.bipush 8, 2) := by decide +kernel
theorem dX2_take_126 : decode cX2_take 126 = .ok (.aload_n 0, 1) := by decide +kernel
theorem dX2_take_127 : decode cX2_take 127 = .ok (.getfield 82, 3) := by decide +kernel
theorem dX2_take_130 : decode cX2_take 130 = .ok (.imul, 1) := by decide +kernel
theorem dX2_take_131 : decode cX2_take 131 = .ok (.bipush 8, 2) := by decide +kernel
theorem dX2_take_133 : decode cX2_take 133 = .ok (.isub, 1) := by decide +kernel
theorem dX2_take_134 : decode cX2_take 134 = .ok (.if_icmp .ge 26, 3) := by decide +kernel
theorem dX2_take_137 : decode cX2_take 137 = .ok (.aload_n 0, 1) := by decide +kernel
theorem dX2_take_138 : decode cX2_take 138 = .ok (.getfield 41, 3) := by decide +kernel
theorem dX2_take_141 : decode cX2_take 141 = .ok (.iload 5, 2) := by decide +kernel
theorem dX2_take_143 : decode cX2_take 143 = .ok (.aload_n 0, 1) := by decide +kernel
theorem dX2_take_144 : decode cX2_take 144 = .ok (.getfield 41, 3) := by decide +kernel
theorem dX2_take_147 : decode cX2_take 147 = .ok (.iload 5, 2) := by decide +kernel
theorem dX2_take_149 : decode cX2_take 149 = .ok (.bipush 8, 2) := by decide +kernel
theorem dX2_take_151 : decode cX2_take 151 = .ok (.iadd, 1) := by decide +kernel
theorem dX2_take_152 : decode cX2_take 152 = .ok (.iaload, 1) := by decide +kernel
theorem dX2_take_153 : decode cX2_take 153 = .ok (.iastore, 1) := by decide +kernel
theorem dX2_take_154 : decode cX2_take 154 = .ok (.iinc 5 1, 3) := by decide +kernel
theorem dX2_take_157 : decode cX2_take 157 = .ok (.goto (-35), 3) := by decide +kernel
theorem dX2_take_160 : decode cX2_take 160 = .ok (.aload_n 0, 1) := by decide +kernel
theorem dX2_take_161 : decode cX2_take 161 = .ok (.dup, 1) := by decide +kernel
theorem dX2_take_162 : decode cX2_take 162 = .ok (.getfield 82, 3) := by decide +kernel
theorem dX2_take_165 : decode cX2_take 165 = .ok (.iconst 1, 1) := by decide +kernel
theorem dX2_take_166 : decode cX2_take 166 = .ok (.isub, 1) := by decide +kernel
theorem dX2_take_167 : decode cX2_take 167 = .ok (.putfield 82, 3) := by decide +kernel

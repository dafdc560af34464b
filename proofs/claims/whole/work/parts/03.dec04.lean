theorem dX2_weightOf_119 : decode cX2_weightOf 119 = .ok (.iaload, 1) := by decide +kernel
theorem dX2_weightOf_120 : decode cX2_weightOf 120 = .ok (.iconst 1, 1) := by decide +kernel
theorem dX2_weightOf_121 : decode cX2_weightOf 121 = .ok (.iadd, 1) := by decide +kernel
theorem dX2_weightOf_122 : decode cX2_weightOf 122 = .ok (.iastore, 1) := by decide +kernel
theorem dX2_weightOf_123 : decode cX2_weightOf 123 = .ok (.aload_n 0, 1) := by decide +kernel
theorem dX2_weightOf_124 : decode cX2_weightOf 124 = .ok (.getfield 44, 3) := by decide +kernel
theorem dX2_weightOf_127 : decode cX2_weightOf 127 = .ok (.bipush 7, 2) := by decide +kernel
theorem dX2_weightOf_129 : decode cX2_weightOf 129 = .ok (.iload_n 1, 1) := by decide +kernel
theorem dX2_weightOf_130 : decode cX2_weightOf 130 = .ok (.imul, 1) := by decide +kernel
theorem dX2_weightOf_131 : decode cX2_weightOf 131 = .ok (.iconst 5, 1) := by decide +kernel
theorem dX2_weightOf_132 : decode cX2_weightOf 132 = .ok (.iadd, 1) := by decide +kernel
theorem dX2_weightOf_133 : decode cX2_weightOf 133 = .ok (.iaload, 1) := by decide +kernel
theorem dX2_weightOf_134 : decode cX2_weightOf 134 = .ok (.aload_n 0, 1) := by decide +kernel
theorem dX2_weightOf_135 : decode cX2_weightOf 135 = .ok (.getfield 13, 3) := by decide +kernel
theorem dX2_weightOf_138 : decode cX2_weightOf 138 = .ok (.iconst 0, 1) := by decide +kernel
theorem dX2_weightOf_139 : decode cX2_weightOf 139 = .ok (.iaload, 1) := by decide +kernel
theorem dX2_weightOf_140 : decode cX2_weightOf 140 = .ok (.if_icmp .ge 5, 3) := by decide +kernel
theorem dX2_weightOf_143 : decode cX2_weightOf 143 = .ok (.iconst 0, 1) := by decide +kernel
theorem dX2_weightOf_144 : decode cX2_weightOf 144 = .ok (.ireturn, 1) := by decide +kernel
theorem dX2_weightOf_145 : decode cX2_weightOf 145 = .ok (.aload_n 0, 1) := by decide +kernel
theorem dX2_weightOf_146 : decode cX2_weightOf 146 = .ok (.getfield 44, 3) := by decide +kernel
theorem dX2_weightOf_149 : decode cX2_weightOf 149 = .ok (.bipush 7, 2) := by decide +kernel
theorem dX2_weightOf_151 : decode cX2_weightOf 151 = .ok (.iload_n 1, 1) := by decide +kernel
theorem dX2_weightOf_152 : decode cX2_weightOf 152 = .ok (.imul, 1) := by decide +kernel
theorem dX2_weightOf_153 : decode cX2_weightOf 153 = .ok (.iconst 5, 1) := by decide +kernel
theorem dX2_weightOf_154 : decode cX2_weightOf 154 = .ok (.iadd, 1) := by decide +kernel
theorem dX2_weightOf_155 : decode cX2_weightOf 155 = .ok (.iconst 0, 1) := by decide +kernel
theorem dX2_weightOf_156 : decode cX2_weightOf 156 = .ok (.iastore, 1) := by decide +kernel
theorem dX2_weightOf_157 : decode cX2_weightOf 157 = .ok (.aload_n 0, 1) := by decide +kernel
theorem dX2_weightOf_158 : decode cX2_weightOf 158 = .ok (.getfield 13, 3) := by decide +kernel
theorem dX2_weightOf_161 : decode cX2_weightOf 161 = .ok (.iconst 0, 1) := by decide +kernel
theorem dX2_weightOf_162 : decode cX2_weightOf 162 = .ok (.iaload, 1) := by decide +kernel
theorem dX2_weightOf_163 : decode cX2_weightOf 163 = .ok (.ireturn, 1) := by decide +kernel
theorem dX2_decides_0 : decode cX2_decides 0 = .ok (.aload_n 0, 1) := by decide +kernel
theorem dX2_decides_1 : decode cX2_decides 1 = .ok (.getfield 23, 3) := by decide +kernel
theorem dX2_decides_4 : decode cX2_decides 4 = .ok (.iload_n 1, 1) := by decide +kernel
theorem dX2_decides_5 : decode cX2_decides 5 = .ok (.iaload, 1) := by decide +kernel
theorem dX2_decides_6 : decode cX2_decides 6 = .ok (.istore_n 3, 1) := by decide +kernel
theorem dX2_decides_7 : decode cX2_decides 7 = .ok (.aload_n 0, 1) := by decide +kernel
theorem dX2_decides_8 : decode cX2_decides 8 = .ok (.iload_n 3, 1) := by decide +kernel
theorem dX2_decides_9 : decode cX2_decides 9 = .ok (.aload_n 0, 1) := by decide +kernel
theorem dX2_decides_10 : decode cX2_decides 10 = .ok (.getfield 26, 3) := by decide +kernel
theorem dX2_decides_13 : decode cX2_decides 13 = .ok (.iload_n 1, 1) := by decide +kernel
theorem dX2_decides_14 : decode cX2_decides 14 = .ok (.iaload, 1) := by decide +kernel
theorem dX2_decides_15 : decode cX2_decides 15 = .ok (.iload_n 2, 1) := by decide +kernel
theorem dX2_decides_16 : decode cX2_decides 16 = .ok (.invokevirtual 75, 3) := by decide +kernel
theorem dX2_decides_19 : decode cX2_decides 19 = .ok (.istore 4, 2) := by decide +kernel
theorem dX2_decides_21 : decode cX2_decides 21 = .ok (.aload_n 0, 1) := by decide +kernel
theorem dX2_decides_22 : decode cX2_decides 22 = .ok (.getfield 44, 3) := by decide +kernel
theorem dX2_decides_25 : decode cX2_decides 25 = .ok (.bipush 7, 2) := by decide +kernel
theorem dX2_decides_27 : decode cX2_decides 27 = .ok (.iload_n 3, 1) := by decide +kernel
theorem dX2_decides_28 : decode cX2_decides 28 = .ok (.imul, 1) := by decide +kernel
theorem dX2_decides_29 : decode cX2_decides 29 = .ok (.dup2, 1) := by decide +kernel
theorem dX2_decides_30 : decode cX2_decides 30 = .ok (.iaload, 1) := by decide +kernel
theorem dX2_decides_31 : decode cX2_decides 31 = .ok (.iconst 1, 1) := by decide +kernel
theorem dX2_decides_32 : decode cX2_decides 32 = .ok (.iadd, 1) := by decide +kernel
theorem dX2_decides_33 : decode cX2_decides 33 = .ok (.iastore, 1) := by decide +kernel
theorem dX2_decides_34 : decode cX2_decides 34 = .ok (.iconst 0, 1) := by decide +kernel
theorem dX2_decides_35 : decode cX2_decides 35 = .ok (.istore 5, 2) := by decide +kernel
theorem dX2_decides_37 : decode cX2_decides 37 = .ok (.iconst 1, 1) := by decide +kernel
theorem dX2_decides_38 : decode cX2_decides 38 = .ok (.istore 6, 2) := by decide +kernel
theorem dX2_decides_40 : decode cX2_decides 40 = .ok (.aload_n 0, 1) := by decide +kernel
theorem dX2_decides_41 : decode cX2_decides 41 = .ok (.getfield 26, 3) := by decide +kernel
theorem dX2_decides_44 : decode cX2_decides 44 = .ok (.iload_n 1, 1) := by decide +kernel
theorem dX2_decides_45 : decode cX2_decides 45 = .ok (.iaload, 1) := by decide +kernel
theorem dX2_decides_46 : decode cX2_decides 46 = .ok (.iload 6, 2) := by decide +kernel
theorem dX2_decides_48 : decode cX2_decides 48 = .ok (.if_icmp .lt 15, 3) := by decide +kernel
theorem dX2_decides_51 : decode cX2_decides 51 = .ok (.iinc 5 1, 3) := by decide +kernel
theorem dX2_decides_54 : decode cX2_decides 54 = .ok (.iload 6, 2) := by decide +kernel
theorem dX2_decides_56 : decode cX2_decides 56 = .ok (.iconst 2, 1) := by decide +kernel
theorem dX2_decides_57 : decode cX2_decides 57 = .ok (.imul, 1) := by decide +kernel
theorem dX2_decides_58 : decode cX2_decides 58 = .ok (.istore 6, 2) := by decide +kernel
theorem dX2_decides_60 : decode cX2_decides 60 = .ok (.goto (-20), 3) := by decide +kernel
theorem dX2_decides_63 : decode cX2_decides 63 = .ok (.aload_n 0, 1) := by decide +kernel
theorem dX2_decides_64 : decode cX2_decides 64 = .ok (.getfield 47, 3) := by decide +kernel
theorem dX2_decides_67 : decode cX2_decides 67 = .ok (.iload 5, 2) := by decide +kernel
theorem dX2_decides_69 : decode cX2_decides 69 = .ok (.dup2, 1) := by decide +kernel
theorem dX2_decides_70 : decode cX2_decides 70 = .ok (.iaload, 1) := by decide +kernel
theorem dX2_decides_71 : decode cX2_decides 71 = .ok (.iconst 1, 1) := by decide +kernel
theorem dX2_decides_72 : decode cX2_decides 72 = .ok (.iadd, 1) := by decide +kernel
theorem dX2_decides_73 : decode cX2_decides 73 = .ok (.iastore, 1) := by decide +kernel
theorem dX2_decides_74 : decode cX2_decides 74 = .ok (.aload_n 0, 1) := by decide +kernel
theorem dX2_decides_75 : decode cX2_decides 75 = .ok (.getfield 50, 3) := by decide +kernel
theorem dX2_decides_78 : decode cX2_decides 78 = .ok (.bipush 10, 2) := by decide +kernel
theorem dX2_decides_80 : decode cX2_decides 80 = .ok (.dup2, 1) := by decide +kernel
theorem dX2_decides_81 : decode cX2_decides 81 = .ok (.iaload, 1) := by decide +kernel
theorem dX2_decides_82 : decode cX2_decides 82 = .ok (.iconst 1, 1) := by decide +kernel
theorem dX2_decides_83 : decode cX2_decides 83 = .ok (.iadd, 1) := by decide +kernel
theorem dX2_decides_84 : decode cX2_decides 84 = .ok (.iastore, 1) := by decide +kernel
theorem dX2_decides_85 : decode cX2_decides 85 = .ok (.aload_n 0, 1) := by decide +kernel
theorem dX2_decides_86 : decode cX2_decides 86 = .ok (.getfield 50, 3) := by decide +kernel
theorem dX2_decides_89 : decode cX2_decides 89 = .ok (.bipush 11, 2) := by decide +kernel
theorem dX2_decides_91 : decode cX2_decides 91 = .ok (.dup2, 1) := by decide +kernel
theorem dX2_decides_92 : decode cX2_decides 92 = .ok (.iaload, 1) := by decide +kernel
theorem dX2_decides_93 : decode cX2_decides 93 = .ok (.iload_n 2, 1) := by decide +kernel
theorem dX2_decides_94 : decode cX2_decides 94 = .ok (.ifCond .eq 7, 3) := by decide +kernel
theorem dX2_decides_97 : decode cX2_decides 97 = .ok (.iconst 1, 1) := by decide +kernel
theorem dX2_decides_98 : decode cX2_decides 98 = .ok (.goto 4, 3) := by decide +kernel
theorem dX2_decides_101 : decode cX2_decides 101 = .ok (.iconst 0, 1) := by decide +kernel
theorem dX2_decides_102 : decode cX2_decides 102 = .ok (.iadd, 1) := by decide +kernel
theorem dX2_decides_103 : decode cX2_decides 103 = .ok (.iastore, 1) := by decide +kernel
theorem dX2_decides_104 : decode cX2_decides 104 = .ok (.aload_n 0, 1) := by decide +kernel
theorem dX2_decides_105 : decode cX2_decides 105 = .ok (.getfield 17, 3) := by decide +kernel
theorem dX2_decides_108 : decode cX2_decides 108 = .ok (.iload_n 1, 1) := by decide +kernel
theorem dX2_decides_109 : decode cX2_decides 109 = .ok (.bipush (-9), 2) := by decide +kernel
theorem dX2_decides_111 : decode cX2_decides 111 = .ok (.iastore, 1) := by decide +kernel
theorem dX2_decides_112 : decode cX2_decides 112 = .ok (.aload_n 0, 1) := by decide +kernel
theorem dX2_decides_113 : decode cX2_decides 113 = .ok (.getfield 35, 3) := by decide +kernel
theorem dX2_decides_116 : decode cX2_decides 116 = .ok (.iload_n 1, 1) := by decide +kernel
theorem dX2_decides_117 : decode cX2_decides 117 = .ok (.aload_n 0, 1) := by decide +kernel
theorem dX2_decides_118 : decode cX2_decides 118 = .ok (.getfield 50, 3) := by decide +kernel
theorem dX2_decides_121 : decode cX2_decides 121 = .ok (.bipush 10, 2) := by decide +kernel
theorem dX2_decides_123 : decode cX2_decides 123 = .ok (.iaload, 1) := by decide +kernel
theorem dX2_decides_124 : decode cX2_decides 124 = .ok (.iastore, 1) := by decide +kernel
theorem dX2_decides_125 : decode cX2_decides 125 = .ok (.aload_n 0, 1) := by decide +kernel
theorem dX2_decides_126 : decode cX2_decides 126 = .ok (.getfield 38, 3) := by decide +kernel
theorem dX2_decides_129 : decode cX2_decides 129 = .ok (.iload_n 1, 1) := by decide +kernel
theorem dX2_decides_130 : decode cX2_decides 130 = .ok (.aload_n 0, 1) := by decide +kernel
theorem dX2_decides_131 : decode cX2_decides 131 = .ok (.getfield 79, 3) := by decide +kernel
theorem dX2_decides_134 : decode cX2_decides 134 = .ok (.iastore, 1) := by decide +kernel
theorem dX2_decides_135 : decode cX2_decides 135 = .ok (.iload 4, 2) := by decide +kernel
theorem dX2_decides_137 : decode cX2_decides 137 = .ok (.ifCond .le 31, 3) := by decide +kernel
theorem dX2_decides_140 : decode cX2_decides 140 = .ok (.aload_n 0, 1) := by decide +kernel
theorem dX2_decides_141 : decode cX2_decides 141 = .ok (.getfield 82, 3) := by decide +kernel
theorem dX2_decides_144 : decode cX2_decides 144 = .ok (.bipush 20, 2) := by decide +kernel
theorem dX2_decides_146 : decode cX2_decides 146 = .ok (.if_icmp .ne 22, 3) := by decide +kernel
theorem dX2_decides_149 : decode cX2_decides 149 = .ok (.aload_n 0, 1) := by decide +kernel
theorem dX2_decides_150 : decode cX2_decides 150 = .ok (.getfield 44, 3) := by decide +kernel
theorem dX2_decides_153 : decode cX2_decides 153 = .ok (.bipush 7, 2) := by decide +kernel
theorem dX2_decides_155 : decode cX2_decides 155 = .ok (.iload_n 3, 1) := by decide +kernel
theorem dX2_decides_156 : decode cX2_decides 156 = .ok (.imul, 1) := by decide +kernel
theorem dX2_decides_157 : decode cX2_decides 157 = .ok (.iconst 3, 1) := by decide +kernel
theorem dX2_decides_158 : decode cX2_decides 158 = .ok (.iadd, 1) := by decide +kernel
theorem dX2_decides_159 : decode cX2_decides 159 = .ok (.dup2, 1) := by decide +kernel
theorem dX2_decides_160 : decode cX2_decides 160 = .ok (.iaload, 1) := by decide +kernel
theorem dX2_decides_161 : decode cX2_decides 161 = .ok (.iload 4, 2) := by decide +kernel
theorem dX2_decides_163 : decode cX2_decides 163 = .ok (.iadd, 1) := by decide +kernel
theorem dX2_decides_164 : decode cX2_decides 164 = .ok (.iastore, 1) := by decide +kernel
theorem dX2_decides_165 : decode cX2_decides 165 = .ok (.goto 151, 3) := by decide +kernel
theorem dX2_decides_168 : decode cX2_decides 168 = .ok (.iload 4, 2) := by decide +kernel
theorem dX2_decides_170 : decode cX2_decides 170 = .ok (.ifCond .le 146, 3) := by decide +kernel
theorem dX2_decides_173 : decode cX2_decides 173 = .ok (.bipush 8, 2) := by decide +kernel
theorem dX2_decides_175 : decode cX2_decides 175 = .ok (.aload_n 0, 1) := by decide +kernel
theorem dX2_decides_176 : decode cX2_decides 176 = .ok (.getfield 82, 3) := by decide +kernel
theorem dX2_decides_179 : decode cX2_decides 179 = .ok (.imul, 1) := by decide +kernel
theorem dX2_decides_180 : decode cX2_decides 180 = .ok (.istore 7, 2) := by decide +kernel
theorem dX2_decides_182 : decode cX2_decides 182 = .ok (.aload_n 0, 1) := by decide +kernel
theorem dX2_decides_183 : decode cX2_decides 183 = .ok (.getfield 41, 3) := by decide +kernel
theorem dX2_decides_186 : decode cX2_decides 186 = .ok (.iload 7, 2) := by decide +kernel
theorem dX2_decides_188 : decode cX2_decides 188 = .ok (.iload_n 1, 1) := by decide +kernel
theorem dX2_decides_189 : decode cX2_decides 189 = .ok (.iastore, 1) := by decide +kernel
theorem dX2_decides_190 : decode cX2_decides 190 = .ok (.aload_n 0, 1) := by decide +kernel
theorem dX2_decides_191 : decode cX2_decides 191 = .ok (.getfield 41, 3) := by decide +kernel
theorem dX2_decides_194 : decode cX2_decides 194 = .ok (.iload 7, 2) := by decide +kernel
theorem dX2_decides_196 : decode cX2_decides 196 = .ok (.iconst 1, 1) := by decide +kernel
theorem dX2_decides_197 : decode cX2_decides 197 = .ok (.iadd, 1) := by decide +kernel
theorem dX2_decides_198 : decode cX2_decides 198 = .ok (.aload_n 0, 1) := by decide +kernel
theorem dX2_decides_199 : decode cX2_decides 199 = .ok (.getfield 20, 3) := by decide +kernel
theorem dX2_decides_202 : decode cX2_decides 202 = .ok (.iload_n 1, 1) := by decide +kernel
theorem dX2_decides_203 : decode cX2_decides 203 = .ok (.iaload, 1) := by decide +kernel
theorem dX2_decides_204 : decode cX2_decides 204 = .ok (.iastore, 1) := by decide +kernel
theorem dX2_decides_205 : decode cX2_decides 205 = .ok (.aload_n 0, 1) := by decide +kernel
theorem dX2_decides_206 : decode cX2_decides 206 = .ok (.getfield 41, 3) := by decide +kernel
theorem dX2_decides_209 : decode cX2_decides 209 = .ok (.iload 7, 2) := by decide +kernel
theorem dX2_decides_211 : decode cX2_decides 211 = .ok (.iconst 2, 1) := by decide +kernel
theorem dX2_decides_212 : decode cX2_decides 212 = .ok (.iadd, 1) := by decide +kernel
theorem dX2_decides_213 : decode cX2_decides 213 = .ok (.iload_n 3, 1) := by decide +kernel
theorem dX2_decides_214 : decode cX2_decides 214 = .ok (.iastore, 1) := by decide +kernel
theorem dX2_decides_215 : decode cX2_decides 215 = .ok (.aload_n 0, 1) := by decide +kernel
theorem dX2_decides_216 : decode cX2_decides 216 = .ok (.getfield 41, 3) := by decide +kernel
theorem dX2_decides_219 : decode cX2_decides 219 = .ok (.iload 7, 2) := by decide +kernel
theorem dX2_decides_221 : decode cX2_decides 221 = .ok (.iconst 3, 1) := by decide +kernel
theorem dX2_decides_222 : decode cX2_decides 222 = .ok (.iadd, 1) := by decide +kernel
theorem dX2_decides_223 : decode cX2_decides 223 = .ok (.aload_n 0, 1) := by decide +kernel
theorem dX2_decides_224 : decode cX2_decides 224 = .ok (.getfield 26, 3) := by decide +kernel
theorem dX2_decides_227 : decode cX2_decides 227 = .ok (.iload_n 1, 1) := by decide +kernel
theorem dX2_decides_228 : decode cX2_decides 228 = .ok (.iaload, 1) := by decide +kernel
theorem dX2_decides_229 : decode cX2_decides 229 = .ok (.iastore, 1) := by decide +kernel
theorem dX2_decides_230 : decode cX2_decides 230 = .ok (.aload_n 0, 1) := by decide +kernel
theorem dX2_decides_231 : decode cX2_decides 231 = .ok (.getfield 41, 3) := by decide +kernel
theorem dX2_decides_234 : decode cX2_decides 234 = .ok (.iload 7, 2) := by decide +kernel
theorem dX2_decides_236 : decode cX2_decides 236 = .ok (.iconst 4, 1) := by decide +kernel
theorem dX2_decides_237 : decode cX2_decides 237 = .ok (.iadd, 1) := by decide +kernel
theorem dX2_decides_238 : decode cX2_decides 238 = .ok (.iload 4, 2) := by decide +kernel
theorem dX2_decides_240 : decode cX2_decides 240 = .ok (.iastore, 1) := by decide +kernel
theorem dX2_decides_241 : decode cX2_decides 241 = .ok (.aload_n 0, 1) := by decide +kernel
theorem dX2_decides_242 : decode cX2_decides 242 = .ok (.getfield 41, 3) := by decide +kernel
theorem dX2_decides_245 : decode cX2_decides 245 = .ok (.iload 7, 2) := by decide +kernel
theorem dX2_decides_247 : decode cX2_decides 247 = .ok (.iconst 5, 1) := by decide +kernel
theorem dX2_decides_248 : decode cX2_decides 248 = .ok (.iadd, 1) := by decide +kernel
theorem dX2_decides_249 : decode cX2_decides 249 = .ok (.iload_n 2, 1) := by decide +kernel
theorem dX2_decides_250 : decode cX2_decides 250 = .ok (.ifCond .eq 7, 3) := by decide +kernel
theorem dX2_decides_253 : decode cX2_decides 253 = .ok (.iconst 1, 1) := by decide +kernel
theorem dX2_decides_254 : decode cX2_decides 254 = .ok (.goto 4, 3) := by decide +kernel
theorem dX2_decides_257 : decode cX2_decides 257 = .ok (.iconst 0, 1) := by decide +kernel
theorem dX2_decides_258 : decode cX2_decides 258 = .ok (.iastore, 1) := by decide +kernel
theorem dX2_decides_259 : decode cX2_decides 259 = .ok (.aload_n 0, 1) := by decide +kernel
theorem dX2_decides_260 : decode cX2_decides 260 = .ok (.getfield 41, 3) := by decide +kernel
theorem dX2_decides_263 : decode cX2_decides 263 = .ok (.iload 7, 2) := by decide +kernel
theorem dX2_decides_265 : decode cX2_decides 265 = .ok (.bipush 6, 2) := by decide +kernel
theorem dX2_decides_267 : decode cX2_decides 267 = .ok (.iadd, 1) := by decide +kernel
theorem dX2_decides_268 : decode cX2_decides 268 = .ok (.aload_n 0, 1) := by decide +kernel
theorem dX2_decides_269 : decode cX2_decides 269 = .ok (.getfield 79, 3) := by decide +kernel
theorem dX2_decides_272 : decode cX2_decides 272 = .ok (.iastore, 1) := by decide +kernel
theorem dX2_decides_273 : decode cX2_decides 273 = .ok (.aload_n 0, 1) := by decide +kernel
theorem dX2_decides_274 : decode cX2_decides 274 = .ok (.getfield 41, 3) := by decide +kernel
theorem dX2_decides_277 : decode cX2_decides 277 = .ok (.iload 7, 2) := by decide +kernel
theorem dX2_decides_279 : decode cX2_decides 279 = .ok (.bipush 7, 2) := by decide +kernel
theorem dX2_decides_281 : decode cX2_decides 281 = .ok (.iadd, 1) := by decide +kernel
theorem dX2_decides_282 : decode cX2_decides 282 = .ok (.aload_n 0, 1) := by decide +kernel
theorem dX2_decides_283 : decode cX2_decides 283 = .ok (.getfield 50, 3) := by decide +kernel
theorem dX2_decides_286 : decode cX2_decides 286 = .ok (.bipush 10, 2) := by decide +kernel
theorem dX2_decides_288 : decode cX2_decides 288 = .ok (.iaload, 1) := by decide +kernel
theorem dX2_decides_289 : decode cX2_decides 289 = .ok (.iastore, 1) := by decide +kernel
theorem dX2_decides_290 : decode cX2_decides 290 = .ok (.aload_n 0, 1) := by decide +kernel
theorem dX2_decides_291 : decode cX2_decides 291 = .ok (.dup, 1) := by decide +kernel
theorem dX2_decides_292 : decode cX2_decides 292 = .ok (.getfield 82, 3) := by decide +kernel
theorem dX2_decides_295 : decode cX2_decides 295 = .ok (.iconst 1, 1) := by decide +kernel
theorem dX2_decides_296 : decode cX2_decides 296 = .ok (.iadd, 1) := by decide +kernel
theorem dX2_decides_297 : decode cX2_decides 297 = .ok (.putfield 82, 3) := by decide +kernel
theorem dX2_decides_300 : decode cX2_decides 300 = .ok (.aload_n 0, 1) := by decide +kernel
theorem dX2_decides_301 : decode cX2_decides 301 = .ok (.getfield 44, 3) := by decide +kernel
theorem dX2_decides_304 : decode cX2_decides 304 = .ok (.bipush 7, 2) := by decide +kernel
theorem dX2_decides_306 : decode cX2_decides 306 = .ok (.iload_n 3, 1) := by decide +kernel
theorem dX2_decides_307 : decode cX2_decides 307 = .ok (.imul, 1) := by decide +kernel
theorem dX2_decides_308 : decode cX2_decides 308 = .ok (.iconst 1, 1) := by decide +kernel
theorem dX2_decides_309 : decode cX2_decides 309 = .ok (.iadd, 1) := by decide +kernel
theorem dX2_decides_310 : decode cX2_decides 310 = .ok (.dup2, 1) := by decide +kernel
theorem dX2_decides_311 : decode cX2_decides 311 = .ok (.iaload, 1) := by decide +kernel
theorem dX2_decides_312 : decode cX2_decides 312 = .ok (.iload 4, 2) := by decide +kernel
theorem dX2_decides_314 : decode cX2_decides 314 = .ok (.iadd, 1) := by decide +kernel
theorem dX2_decides_315 : decode cX2_decides 315 = .ok (.iastore, 1) := by decide +kernel
theorem dX2_decides_316 : decode cX2_decides 316 = .ok (.return_, 1) := by decide +kernel
theorem dX2_isKnown_0 : decode cX2_isKnown 0 = .ok (.aload_n 0, 1) := by decide +kernel
theorem dX2_isKnown_1 : decode cX2_isKnown 1 = .ok (.getfield 35, 3) := by decide +kernel
theorem dX2_isKnown_4 : decode cX2_isKnown 4 = .ok (.iload_n 1, 1) := by decide +kernel
theorem dX2_isKnown_5 : decode cX2_isKnown 5 = .ok (.iaload, 1) := by decide +kernel
theorem dX2_isKnown_6 : decode cX2_isKnown 6 = .ok (.ifCond .le 23, 3) := by decide +kernel
theorem dX2_isKnown_9 : decode cX2_isKnown 9 = .ok (.aload_n 0, 1) := by decide +kernel
theorem dX2_isKnown_10 : decode cX2_isKnown 10 = .ok (.getfield 79, 3) := by decide +kernel
theorem dX2_isKnown_13 : decode cX2_isKnown 13 = .ok (.aload_n 0, 1) := by decide +kernel
theorem dX2_isKnown_14 : decode cX2_isKnown 14 = .ok (.getfield 38, 3) := by decide +kernel
theorem dX2_isKnown_17 : decode cX2_isKnown 17 = .ok (.iload_n 1, 1) := by decide +kernel
theorem dX2_isKnown_18 : decode cX2_isKnown 18 = .ok (.iaload, 1) := by decide +kernel
theorem dX2_isKnown_19 : decode cX2_isKnown 19 = .ok (.isub, 1) := by decide +kernel
theorem dX2_isKnown_20 : decode cX2_isKnown 20 = .ok (.bipush 50, 2) := by decide +kernel
theorem dX2_isKnown_22 : decode cX2_isKnown 22 = .ok (.if_icmp .ge 7, 3) := by decide +kernel
theorem dX2_isKnown_25 : decode cX2_isKnown 25 = .ok (.iconst 1, 1) := by decide +kernel
theorem dX2_isKnown_26 : decode cX2_isKnown 26 = .ok (.goto 4, 3) := by decide +kernel
theorem dX2_isKnown_29 : decode cX2_isKnown 29 = .ok (.iconst 0, 1) := by decide +kernel
theorem dX2_isKnown_30 : decode cX2_isKnown 30 = .ok (.ireturn, 1) := by decide +kernel
theorem dX2_keptAt_0 : decode cX2_keptAt 0 = .ok (.iconst 0, 1) := by decide +kernel
theorem dX2_keptAt_1 : decode cX2_keptAt 1 = .ok (.istore_n 2, 1) := by decide +kernel
theorem dX2_keptAt_2 : decode cX2_keptAt 2 = .ok (.iload_n 2, 1) := by decide +kernel
theorem dX2_keptAt_3 : decode cX2_keptAt 3 = .ok (.aload_n 0, 1) := by decide +kernel
theorem dX2_keptAt_4 : decode cX2_keptAt 4 = .ok (.getfield 82, 3) := by decide +kernel
theorem dX2_keptAt_7 : decode cX2_keptAt 7 = .ok (.if_icmp .ge 32, 3) := by decide +kernel
theorem dX2_keptAt_10 : decode cX2_keptAt 10 = .ok (.aload_n 0, 1) := by decide +kernel
theorem dX2_keptAt_11 : decode cX2_keptAt 11 = .ok (.getfield 41, 3) := by decide +kernel
theorem dX2_keptAt_14 : decode cX2_keptAt 14 = .ok (.bipush 8, 2) := by decide +kernel
theorem dX2_keptAt_16 : decode cX2_keptAt 16 = .ok (.iload_n 2, 1) := by decide +kernel
theorem dX2_keptAt_17 : decode cX2_keptAt 17 = .ok (.imul, 1) := by decide +kernel
theorem dX2_keptAt_18 : decode cX2_keptAt 18 = .ok (.bipush 7, 2) := by decide +kernel
theorem dX2_keptAt_20 : decode cX2_keptAt 20 = .ok (.iadd, 1) := by decide +kernel
theorem dX2_keptAt_21 : decode cX2_keptAt 21 = .ok (.iaload, 1) := by decide +kernel
theorem dX2_keptAt_22 : decode cX2_keptAt 22 = .ok (.aload_n 0, 1) := by decide +kernel
theorem dX2_keptAt_23 : decode cX2_keptAt 23 = .ok (.getfield 35, 3) := by decide +kernel
theorem dX2_keptAt_26 : decode cX2_keptAt 26 = .ok (.iload_n 1, 1) := by decide +kernel
theorem dX2_keptAt_27 : decode cX2_keptAt 27 = .ok (.iaload, 1) := by decide +kernel
theorem dX2_keptAt_28 : decode cX2_keptAt 28 = .ok (.if_icmp .ne 5, 3) := by decide +kernel
theorem dX2_keptAt_31 : decode cX2_keptAt 31 = .ok (.iload_n 2, 1) := by decide +kernel
theorem dX2_keptAt_32 : decode cX2_keptAt 32 = .ok (.ireturn, 1) := by decide +kernel
theorem dX2_keptAt_33 : decode cX2_keptAt 33 = .ok (.iinc 2 1, 3) := by decide +kernel
theorem dX2_keptAt_36 : decode cX2_keptAt 36 = .ok (.goto (-34), 3) := by decide +kernel
theorem dX2_keptAt_39 : decode cX2_keptAt 39 = .ok (.bipush (-9), 2) := by decide +kernel
theorem dX2_keptAt_41 : decode cX2_keptAt 41 = .ok (.ireturn, 1) := by decide +kernel
theorem dX2_waitingMany_0 : decode cX2_waitingMany 0 = .ok (.iconst 0, 1) := by decide +kernel
theorem dX2_waitingMany_1 : decode cX2_waitingMany 1 = .ok (.istore_n 1, 1) := by decide +kernel
theorem dX2_waitingMany_2 : decode cX2_waitingMany 2 = .ok (.iconst 0, 1) := by decide +kernel
theorem dX2_waitingMany_3 : decode cX2_waitingMany 3 = .ok (.istore_n 2, 1) := by decide +kernel
theorem dX2_waitingMany_4 : decode cX2_waitingMany 4 = .ok (.iload_n 2, 1) := by decide +kernel
theorem dX2_waitingMany_5 : decode cX2_waitingMany 5 = .ok (.bipush 100, 2) := by decide +kernel
theorem dX2_waitingMany_7 : decode cX2_waitingMany 7 = .ok (.if_icmp .ge 28, 3) := by decide +kernel
theorem dX2_waitingMany_10 : decode cX2_waitingMany 10 = .ok (.iload_n 1, 1) := by decide +kernel
theorem dX2_waitingMany_11 : decode cX2_waitingMany 11 = .ok (.aload_n 0, 1) := by decide +kernel
theorem dX2_waitingMany_12 : decode cX2_waitingMany 12 = .ok (.getfield 17, 3) := by decide +kernel
theorem dX2_waitingMany_15 : decode cX2_waitingMany 15 = .ok (.iload_n 2, 1) := by decide +kernel
theorem dX2_waitingMany_16 : decode cX2_waitingMany 16 = .ok (.iaload, 1) := by decide +kernel
theorem dX2_waitingMany_17 : decode cX2_waitingMany 17 = .ok (.bipush (-9), 2) := by decide +kernel
theorem dX2_waitingMany_19 : decode cX2_waitingMany 19 = .ok (.if_icmp .ne 7, 3) := by decide +kernel
theorem dX2_waitingMany_22 : decode cX2_waitingMany 22 = .ok (.iconst 0, 1) := by decide +kernel
theorem dX2_waitingMany_23 : decode cX2_waitingMany 23 = .ok (.goto 4, 3) := by decide +kernel
theorem dX2_waitingMany_26 : decode cX2_waitingMany 26 = .ok (.iconst 1, 1) := by decide +kernel
theorem dX2_waitingMany_27 : decode cX2_waitingMany 27 = .ok (.iadd, 1) := by decide +kernel
theorem dX2_waitingMany_28 : decode cX2_waitingMany 28 = .ok (.istore_n 1, 1) := by decide +kernel
theorem dX2_waitingMany_29 : decode cX2_waitingMany 29 = .ok (.iinc 2 1, 3) := by decide +kernel
theorem dX2_waitingMany_32 : decode cX2_waitingMany 32 = .ok (.goto (-28), 3) := by decide +kernel
theorem dX2_waitingMany_35 : decode cX2_waitingMany 35 = .ok (.iload_n 1, 1) := by decide +kernel
theorem dX2_waitingMany_36 : decode cX2_waitingMany 36 = .ok (.ireturn, 1) := by decide +kernel
theorem dX2_joins_0 : decode cX2_joins 0 = .ok (.aload_n 0, 1) := by decide +kernel
theorem dX2_joins_1 : decode cX2_joins 1 = .ok (.getfield 20, 3) := by decide +kernel
theorem dX2_joins_4 : decode cX2_joins 4 = .ok (.iload_n 1, 1) := by decide +kernel
theorem dX2_joins_5 : decode cX2_joins 5 = .ok (.iaload, 1) := by decide +kernel
theorem dX2_joins_6 : decode cX2_joins 6 = .ok (.iload_n 2, 1) := by decide +kernel
theorem dX2_joins_7 : decode cX2_joins 7 = .ok (.ishr, 1) := by decide +kernel
theorem dX2_joins_8 : decode cX2_joins 8 = .ok (.iconst 1, 1) := by decide +kernel
theorem dX2_joins_9 : decode cX2_joins 9 = .ok (.iand, 1) := by decide +kernel
theorem dX2_joins_10 : decode cX2_joins 10 = .ok (.iconst 1, 1) := by decide +kernel
theorem dX2_joins_11 : decode cX2_joins 11 = .ok (.if_icmp .ne 5, 3) := by decide +kernel
theorem dX2_joins_14 : decode cX2_joins 14 = .ok (.iconst 3, 1) := by decide +kernel
theorem dX2_joins_15 : decode cX2_joins 15 = .ok (.ireturn, 1) := by decide +kernel
theorem dX2_joins_16 : decode cX2_joins 16 = .ok (.aload_n 0, 1) := by decide +kernel
theorem dX2_joins_17 : decode cX2_joins 17 = .ok (.getfield 29, 3) := by decide +kernel
theorem dX2_joins_20 : decode cX2_joins 20 = .ok (.iload_n 1, 1) := by decide +kernel
theorem dX2_joins_21 : decode cX2_joins 21 = .ok (.iaload, 1) := by decide +kernel
theorem dX2_joins_22 : decode cX2_joins 22 = .ok (.bipush (-9), 2) := by decide +kernel
theorem dX2_joins_24 : decode cX2_joins 24 = .ok (.if_icmp .eq 17, 3) := by decide +kernel
theorem dX2_joins_27 : decode cX2_joins 27 = .ok (.iload_n 2, 1) := by decide +kernel
theorem dX2_joins_28 : decode cX2_joins 28 = .ok (.aload_n 0, 1) := by decide +kernel
theorem dX2_joins_29 : decode cX2_joins 29 = .ok (.getfield 29, 3) := by decide +kernel
theorem dX2_joins_32 : decode cX2_joins 32 = .ok (.iload_n 1, 1) := by decide +kernel
theorem dX2_joins_33 : decode cX2_joins 33 = .ok (.iaload, 1) := by decide +kernel
theorem dX2_joins_34 : decode cX2_joins 34 = .ok (.if_icmp .gt 22, 3) := by decide +kernel
theorem dX2_joins_37 : decode cX2_joins 37 = .ok (.iload_n 3, 1) := by decide +kernel
theorem dX2_joins_38 : decode cX2_joins 38 = .ok (.ifCond .ne 18, 3) := by decide +kernel
theorem dX2_joins_41 : decode cX2_joins 41 = .ok (.iload_n 3, 1) := by decide +kernel
theorem dX2_joins_42 : decode cX2_joins 42 = .ok (.ifCond .eq 16, 3) := by decide +kernel
theorem dX2_joins_45 : decode cX2_joins 45 = .ok (.aload_n 0, 1) := by decide +kernel
theorem dX2_joins_46 : decode cX2_joins 46 = .ok (.getfield 20, 3) := by decide +kernel
theorem dX2_joins_49 : decode cX2_joins 49 = .ok (.iload_n 1, 1) := by decide +kernel
theorem dX2_joins_50 : decode cX2_joins 50 = .ok (.iaload, 1) := by decide +kernel
theorem dX2_joins_51 : decode cX2_joins 51 = .ok (.iload_n 2, 1) := by decide +kernel
theorem dX2_joins_52 : decode cX2_joins 52 = .ok (.ishr, 1) := by decide +kernel
theorem dX2_joins_53 : decode cX2_joins 53 = .ok (.ifCond .eq 5, 3) := by decide +kernel
theorem dX2_joins_56 : decode cX2_joins 56 = .ok (.iconst 4, 1) := by decide +kernel
theorem dX2_joins_57 : decode cX2_joins 57 = .ok (.ireturn, 1) := by decide +kernel
theorem dX2_joins_58 : decode cX2_joins 58 = .ok (.aload_n 0, 1) := by decide +kernel
theorem dX2_joins_59 : decode cX2_joins 59 = .ok (.getfield 20, 3) := by decide +kernel
theorem dX2_joins_62 : decode cX2_joins 62 = .ok (.iload_n 1, 1) := by decide +kernel
theorem dX2_joins_63 : decode cX2_joins 63 = .ok (.dup2, 1) := by decide +kernel
theorem dX2_joins_64 : decode cX2_joins 64 = .ok (.iaload, 1) := by decide +kernel
theorem dX2_joins_65 : decode cX2_joins 65 = .ok (.iconst 1, 1) := by decide +kernel
theorem dX2_joins_66 : decode cX2_joins 66 = .ok (.iload_n 2, 1) := by decide +kernel
theorem dX2_joins_67 : decode cX2_joins 67 = .ok (.ishl, 1) := by decide +kernel
theorem dX2_joins_68 : decode cX2_joins 68 = .ok (.ior, 1) := by decide +kernel
theorem dX2_joins_69 : decode cX2_joins 69 = .ok (.iastore, 1) := by decide +kernel
theorem dX2_joins_70 : decode cX2_joins 70 = .ok (.aload_n 0, 1) := by decide +kernel
theorem dX2_joins_71 : decode cX2_joins 71 = .ok (.getfield 26, 3) := by decide +kernel
theorem dX2_joins_74 : decode cX2_joins 74 = .ok (.iload_n 1, 1) := by decide +kernel
theorem dX2_joins_75 : decode cX2_joins 75 = .ok (.dup2, 1) := by decide +kernel
theorem dX2_joins_76 : decode cX2_joins 76 = .ok (.iaload, 1) := by decide +kernel
theorem dX2_joins_77 : decode cX2_joins 77 = .ok (.iload 4, 2) := by decide +kernel
theorem dX2_joins_79 : decode cX2_joins 79 = .ok (.iadd, 1) := by decide +kernel
theorem dX2_joins_80 : decode cX2_joins 80 = .ok (.iastore, 1) := by decide +kernel
theorem dX2_joins_81 : decode cX2_joins 81 = .ok (.aload_n 0, 1) := by decide +kernel
theorem dX2_joins_82 : decode cX2_joins 82 = .ok (.getfield 29, 3) := by decide +kernel
theorem dX2_joins_85 : decode cX2_joins 85 = .ok (.iload_n 1, 1) := by decide +kernel
theorem dX2_joins_86 : decode cX2_joins 86 = .ok (.iload_n 3, 1) := by decide +kernel
theorem dX2_joins_87 : decode cX2_joins 87 = .ok (.ifCond .eq 7, 3) := by decide +kernel
theorem dX2_joins_90 : decode cX2_joins 90 = .ok (.iload_n 2, 1) := by decide +kernel
theorem dX2_joins_91 : decode cX2_joins 91 = .ok (.goto 9, 3) := by decide +kernel
theorem dX2_joins_94 : decode cX2_joins 94 = .ok (.aload_n 0, 1) := by decide +kernel
theorem dX2_joins_95 : decode cX2_joins 95 = .ok (.getfield 29, 3) := by decide +kernel
theorem dX2_joins_98 : decode cX2_joins 98 = .ok (.iload_n 1, 1) := by decide +kernel
theorem dX2_joins_99 : decode cX2_joins 99 = .ok (.iaload, 1) := by decide +kernel
theorem dX2_joins_100 : decode cX2_joins 100 = .ok (.iastore, 1) := by decide +kernel
theorem dX2_joins_101 : decode cX2_joins 101 = .ok (.aload_n 0, 1) := by decide +kernel
theorem dX2_joins_102 : decode cX2_joins 102 = .ok (.getfield 29, 3) := by decide +kernel
theorem dX2_joins_105 : decode cX2_joins 105 = .ok (.iload_n 1, 1) := by decide +kernel
theorem dX2_joins_106 : decode cX2_joins 106 = .ok (.iaload, 1) := by decide +kernel
theorem dX2_joins_107 : decode cX2_joins 107 = .ok (.bipush (-9), 2) := by decide +kernel
theorem dX2_joins_109 : decode cX2_joins 109 = .ok (.if_icmp .eq 32, 3) := by decide +kernel
theorem dX2_joins_112 : decode cX2_joins 112 = .ok (.aload_n 0, 1) := by decide +kernel
theorem dX2_joins_113 : decode cX2_joins 113 = .ok (.getfield 20, 3) := by decide +kernel
theorem dX2_joins_116 : decode cX2_joins 116 = .ok (.iload_n 1, 1) := by decide +kernel
theorem dX2_joins_117 : decode cX2_joins 117 = .ok (.iaload, 1) := by decide +kernel
theorem dX2_joins_118 : decode cX2_joins 118 = .ok (.iconst 1, 1) := by decide +kernel
theorem dX2_joins_119 : decode cX2_joins 119 = .ok (.aload_n 0, 1) := by decide +kernel
theorem dX2_joins_120 : decode cX2_joins 120 = .ok (.getfield 29, 3) := by decide +kernel
theorem dX2_joins_123 : decode cX2_joins 123 = .ok (.iload_n 1, 1) := by decide +kernel
theorem dX2_joins_124 : decode cX2_joins 124 = .ok (.iaload, 1) := by decide +kernel
theorem dX2_joins_125 : decode cX2_joins 125 = .ok (.iconst 1, 1) := by decide +kernel
theorem dX2_joins_126 : decode cX2_joins 126 = .ok (.iadd, 1) := by decide +kernel
theorem dX2_joins_127 : decode cX2_joins 127 = .ok (.ishl, 1) := by decide +kernel
theorem dX2_joins_128 : decode cX2_joins 128 = .ok (.iconst 1, 1) := by decide +kernel
theorem dX2_joins_129 : decode cX2_joins 129 = .ok (.isub, 1) := by decide +kernel
theorem dX2_joins_130 : decode cX2_joins 130 = .ok (.if_icmp .ne 11, 3) := by decide +kernel
theorem dX2_joins_133 : decode cX2_joins 133 = .ok (.aload_n 0, 1) := by decide +kernel
theorem dX2_joins_134 : decode cX2_joins 134 = .ok (.iload_n 1, 1) := by decide +kernel
theorem dX2_joins_135 : decode cX2_joins 135 = .ok (.iconst 0, 1) := by decide +kernel
theorem dX2_joins_136 : decode cX2_joins 136 = .ok (.invokevirtual 85, 3) := by decide +kernel
theorem dX2_joins_139 : decode cX2_joins 139 = .ok (.iconst 2, 1) := by decide +kernel
theorem dX2_joins_140 : decode cX2_joins 140 = .ok (.ireturn, 1) := by decide +kernel
theorem dX2_joins_141 : decode cX2_joins 141 = .ok (.iconst 1, 1) := by decide +kernel
theorem dX2_joins_142 : decode cX2_joins 142 = .ok (.ireturn, 1) := by decide +kernel
theorem dX2_comes_0 : decode cX2_comes 0 = .ok (.aload_n 0, 1) := by decide +kernel
theorem dX2_comes_1 : decode cX2_comes 1 = .ok (.iload_n 1, 1) := by decide +kernel
theorem dX2_comes_2 : decode cX2_comes 2 = .ok (.invokevirtual 61, 3) := by decide +kernel
theorem dX2_comes_5 : decode cX2_comes 5 = .ok (.bipush (-9), 2) := by decide +kernel
theorem dX2_comes_7 : decode cX2_comes 7 = .ok (.if_icmp .ne 6, 3) := by decide +kernel
theorem dX2_comes_10 : decode cX2_comes 10 = .ok (.bipush 7, 2) := by decide +kernel
theorem dX2_comes_12 : decode cX2_comes 12 = .ok (.ireturn, 1) := by decide +kernel
theorem dX2_comes_13 : decode cX2_comes 13 = .ok (.aload_n 0, 1) := by decide +kernel
theorem dX2_comes_14 : decode cX2_comes 14 = .ok (.getfield 17, 3) := by decide +kernel
theorem dX2_comes_17 : decode cX2_comes 17 = .ok (.iload_n 1, 1) := by decide +kernel
theorem dX2_comes_18 : decode cX2_comes 18 = .ok (.iaload, 1) := by decide +kernel
theorem dX2_comes_19 : decode cX2_comes 19 = .ok (.bipush (-9), 2) := by decide +kernel
theorem dX2_comes_21 : decode cX2_comes 21 = .ok (.if_icmp .eq 13, 3) := by decide +kernel
theorem dX2_comes_24 : decode cX2_comes 24 = .ok (.aload_n 0, 1) := by decide +kernel
theorem dX2_comes_25 : decode cX2_comes 25 = .ok (.iload_n 1, 1) := by decide +kernel
theorem dX2_comes_26 : decode cX2_comes 26 = .ok (.iload_n 2, 1) := by decide +kernel
theorem dX2_comes_27 : decode cX2_comes 27 = .ok (.iload_n 3, 1) := by decide +kernel
theorem dX2_comes_28 : decode cX2_comes 28 = .ok (.iload 5, 2) := by decide +kernel
theorem dX2_comes_30 : decode cX2_comes 30 = .ok (.invokevirtual 89, 3) := by decide +kernel
theorem dX2_comes_33 : decode cX2_comes 33 = .ok (.ireturn, 1) := by decide +kernel
theorem dX2_comes_34 : decode cX2_comes 34 = .ok (.aload_n 0, 1) := by decide +kernel
theorem dX2_comes_35 : decode cX2_comes 35 = .ok (.iload_n 1, 1) := by decide +kernel
theorem dX2_comes_36 : decode cX2_comes 36 = .ok (.invokevirtual 93, 3) := by decide +kernel
theorem dX2_comes_39 : decode cX2_comes 39 = .ok (.ifCond .eq 97, 3) := by decide +kernel
theorem dX2_comes_42 : decode cX2_comes 42 = .ok (.aload_n 0, 1) := by decide +kernel
theorem dX2_comes_43 : decode cX2_comes 43 = .ok (.iload_n 1, 1) := by decide +kernel
theorem dX2_comes_44 : decode cX2_comes 44 = .ok (.invokevirtual 97, 3) := by decide +kernel
theorem dX2_comes_47 : decode cX2_comes 47 = .ok (.istore 6, 2) := by decide +kernel
theorem dX2_comes_49 : decode cX2_comes 49 = .ok (.iload 6, 2) := by decide +kernel
theorem dX2_comes_51 : decode cX2_comes 51 = .ok (.bipush (-9), 2) := by decide +kernel
theorem dX2_comes_53 : decode cX2_comes 53 = .ok (.if_icmp .eq 43, 3) := by decide +kernel
theorem dX2_comes_56 : decode cX2_comes 56 = .ok (.aload_n 0, 1) := by decide +kernel
theorem dX2_comes_57 : decode cX2_comes 57 = .ok (.getfield 79, 3) := by decide +kernel
theorem dX2_comes_60 : decode cX2_comes 60 = .ok (.aload_n 0, 1) := by decide +kernel
theorem dX2_comes_61 : decode cX2_comes 61 = .ok (.getfield 38, 3) := by decide +kernel

theorem dX9_look_0 : decode cX9_look 0 = .ok (.aload_n 0, 1) := by decide +kernel
theorem dX9_look_1 : decode cX9_look 1 = .ok (.iload_n 1, 1) := by decide +kernel
theorem dX9_look_2 : decode cX9_look 2 = .ok (.invokevirtual 276, 3) := by decide +kernel
theorem dX9_look_5 : decode cX9_look 5 = .ok (.tableswitch 305 0 10 #[59, 61, 74, 80, 118, 134, 153, 167, 181, 218, 274], 59) := by decide +kernel
theorem dX9_look_64 : decode cX9_look 64 = .ok (.iconst 1, 1) := by decide +kernel
theorem dX9_look_65 : decode cX9_look 65 = .ok (.ireturn, 1) := by decide +kernel
theorem dX9_look_66 : decode cX9_look 66 = .ok (.aload_n 0, 1) := by decide +kernel
theorem dX9_look_67 : decode cX9_look 67 = .ok (.aload_n 0, 1) := by decide +kernel
theorem dX9_look_68 : decode cX9_look 68 = .ok (.iload_n 1, 1) := by decide +kernel
theorem dX9_look_69 : decode cX9_look 69 = .ok (.invokevirtual 364, 3) := by decide +kernel
theorem dX9_look_72 : decode cX9_look 72 = .ok (.iload_n 1, 1) := by decide +kernel
theorem dX9_look_73 : decode cX9_look 73 = .ok (.iconst 1, 1) := by decide +kernel
theorem dX9_look_74 : decode cX9_look 74 = .ok (.iadd, 1) := by decide +kernel
theorem dX9_look_75 : decode cX9_look 75 = .ok (.invokevirtual 367, 3) := by decide +kernel
theorem dX9_look_78 : decode cX9_look 78 = .ok (.ireturn, 1) := by decide +kernel
theorem dX9_look_79 : decode cX9_look 79 = .ok (.aload_n 0, 1) := by decide +kernel
theorem dX9_look_80 : decode cX9_look 80 = .ok (.iload_n 1, 1) := by decide +kernel
theorem dX9_look_81 : decode cX9_look 81 = .ok (.invokevirtual 371, 3) := by decide +kernel
theorem dX9_look_84 : decode cX9_look 84 = .ok (.ireturn, 1) := by decide +kernel
theorem dX9_look_85 : decode cX9_look 85 = .ok (.aload_n 0, 1) := by decide +kernel
theorem dX9_look_86 : decode cX9_look 86 = .ok (.iconst 0, 1) := by decide +kernel
theorem dX9_look_87 : decode cX9_look 87 = .ok (.iload_n 1, 1) := by decide +kernel
theorem dX9_look_88 : decode cX9_look 88 = .ok (.iconst 1, 1) := by decide +kernel
theorem dX9_look_89 : decode cX9_look 89 = .ok (.iadd, 1) := by decide +kernel
theorem dX9_look_90 : decode cX9_look 90 = .ok (.aload_n 0, 1) := by decide +kernel
theorem dX9_look_91 : decode cX9_look 91 = .ok (.getfield 7, 3) := by decide +kernel
theorem dX9_look_94 : decode cX9_look 94 = .ok (.iload_n 1, 1) := by decide +kernel
theorem dX9_look_95 : decode cX9_look 95 = .ok (.iaload, 1) := by decide +kernel
theorem dX9_look_96 : decode cX9_look 96 = .ok (.bipush 7, 2) := by decide +kernel
theorem dX9_look_98 : decode cX9_look 98 = .ok (.iand, 1) := by decide +kernel
theorem dX9_look_99 : decode cX9_look 99 = .ok (.iconst 5, 1) := by decide +kernel
theorem dX9_look_100 : decode cX9_look 100 = .ok (.if_icmp .ne 12, 3) := by decide +kernel
theorem dX9_look_103 : decode cX9_look 103 = .ok (.aload_n 0, 1) := by decide +kernel
theorem dX9_look_104 : decode cX9_look 104 = .ok (.getfield 19, 3) := by decide +kernel
theorem dX9_look_107 : decode cX9_look 107 = .ok (.iload_n 1, 1) := by decide +kernel
theorem dX9_look_108 : decode cX9_look 108 = .ok (.iaload, 1) := by decide +kernel
theorem dX9_look_109 : decode cX9_look 109 = .ok (.goto 9, 3) := by decide +kernel
theorem dX9_look_112 : decode cX9_look 112 = .ok (.aload_n 0, 1) := by decide +kernel
theorem dX9_look_113 : decode cX9_look 113 = .ok (.getfield 22, 3) := by decide +kernel
theorem dX9_look_116 : decode cX9_look 116 = .ok (.iload_n 1, 1) := by decide +kernel
theorem dX9_look_117 : decode cX9_look 117 = .ok (.iaload, 1) := by decide +kernel
theorem dX9_look_118 : decode cX9_look 118 = .ok (.iadd, 1) := by decide +kernel
theorem dX9_look_119 : decode cX9_look 119 = .ok (.invokevirtual 367, 3) := by decide +kernel
theorem dX9_look_122 : decode cX9_look 122 = .ok (.ireturn, 1) := by decide +kernel
theorem dX9_look_123 : decode cX9_look 123 = .ok (.aload_n 0, 1) := by decide +kernel
theorem dX9_look_124 : decode cX9_look 124 = .ok (.getfield 106, 3) := by decide +kernel
theorem dX9_look_127 : decode cX9_look 127 = .ok (.iconst 0, 1) := by decide +kernel
theorem dX9_look_128 : decode cX9_look 128 = .ok (.iaload, 1) := by decide +kernel
theorem dX9_look_129 : decode cX9_look 129 = .ok (.iconst 1, 1) := by decide +kernel
theorem dX9_look_130 : decode cX9_look 130 = .ok (.if_icmp .ne 7, 3) := by decide +kernel
theorem dX9_look_133 : decode cX9_look 133 = .ok (.iconst 0, 1) := by decide +kernel
theorem dX9_look_134 : decode cX9_look 134 = .ok (.goto 4, 3) := by decide +kernel
theorem dX9_look_137 : decode cX9_look 137 = .ok (.iconst 5, 1) := by decide +kernel
theorem dX9_look_138 : decode cX9_look 138 = .ok (.ireturn, 1) := by decide +kernel
theorem dX9_look_139 : decode cX9_look 139 = .ok (.aload_n 0, 1) := by decide +kernel
theorem dX9_look_140 : decode cX9_look 140 = .ok (.aload_n 0, 1) := by decide +kernel
theorem dX9_look_141 : decode cX9_look 141 = .ok (.iload_n 1, 1) := by decide +kernel
theorem dX9_look_142 : decode cX9_look 142 = .ok (.aload_n 0, 1) := by decide +kernel
theorem dX9_look_143 : decode cX9_look 143 = .ok (.getfield 22, 3) := by decide +kernel
theorem dX9_look_146 : decode cX9_look 146 = .ok (.iload_n 1, 1) := by decide +kernel
theorem dX9_look_147 : decode cX9_look 147 = .ok (.iaload, 1) := by decide +kernel
theorem dX9_look_148 : decode cX9_look 148 = .ok (.invokevirtual 374, 3) := by decide +kernel
theorem dX9_look_151 : decode cX9_look 151 = .ok (.iload_n 1, 1) := by decide +kernel
theorem dX9_look_152 : decode cX9_look 152 = .ok (.iconst 1, 1) := by decide +kernel
theorem dX9_look_153 : decode cX9_look 153 = .ok (.iadd, 1) := by decide +kernel
theorem dX9_look_154 : decode cX9_look 154 = .ok (.invokevirtual 367, 3) := by decide +kernel
theorem dX9_look_157 : decode cX9_look 157 = .ok (.ireturn, 1) := by decide +kernel
theorem dX9_look_158 : decode cX9_look 158 = .ok (.aload_n 0, 1) := by decide +kernel
theorem dX9_look_159 : decode cX9_look 159 = .ok (.aload_n 0, 1) := by decide +kernel
theorem dX9_look_160 : decode cX9_look 160 = .ok (.iload_n 1, 1) := by decide +kernel
theorem dX9_look_161 : decode cX9_look 161 = .ok (.iconst 0, 1) := by decide +kernel
theorem dX9_look_162 : decode cX9_look 162 = .ok (.invokevirtual 377, 3) := by decide +kernel
theorem dX9_look_165 : decode cX9_look 165 = .ok (.iload_n 1, 1) := by decide +kernel
theorem dX9_look_166 : decode cX9_look 166 = .ok (.iconst 1, 1) := by decide +kernel
theorem dX9_look_167 : decode cX9_look 167 = .ok (.iadd, 1) := by decide +kernel
theorem dX9_look_168 : decode cX9_look 168 = .ok (.invokevirtual 367, 3) := by decide +kernel
theorem dX9_look_171 : decode cX9_look 171 = .ok (.ireturn, 1) := by decide +kernel
theorem dX9_look_172 : decode cX9_look 172 = .ok (.aload_n 0, 1) := by decide +kernel
theorem dX9_look_173 : decode cX9_look 173 = .ok (.aload_n 0, 1) := by decide +kernel
theorem dX9_look_174 : decode cX9_look 174 = .ok (.iload_n 1, 1) := by decide +kernel
theorem dX9_look_175 : decode cX9_look 175 = .ok (.iconst 1, 1) := by decide +kernel
theorem dX9_look_176 : decode cX9_look 176 = .ok (.invokevirtual 377, 3) := by decide +kernel
theorem dX9_look_179 : decode cX9_look 179 = .ok (.iload_n 1, 1) := by decide +kernel
theorem dX9_look_180 : decode cX9_look 180 = .ok (.iconst 1, 1) := by decide +kernel
theorem dX9_look_181 : decode cX9_look 181 = .ok (.iadd, 1) := by decide +kernel
theorem dX9_look_182 : decode cX9_look 182 = .ok (.invokevirtual 367, 3) := by decide +kernel
theorem dX9_look_185 : decode cX9_look 185 = .ok (.ireturn, 1) := by decide +kernel
theorem dX9_look_186 : decode cX9_look 186 = .ok (.aload_n 0, 1) := by decide +kernel
theorem dX9_look_187 : decode cX9_look 187 = .ok (.aload_n 0, 1) := by decide +kernel
theorem dX9_look_188 : decode cX9_look 188 = .ok (.getfield 106, 3) := by decide +kernel
theorem dX9_look_191 : decode cX9_look 191 = .ok (.aload_n 0, 1) := by decide +kernel
theorem dX9_look_192 : decode cX9_look 192 = .ok (.getfield 13, 3) := by decide +kernel
theorem dX9_look_195 : decode cX9_look 195 = .ok (.iload_n 1, 1) := by decide +kernel
theorem dX9_look_196 : decode cX9_look 196 = .ok (.iaload, 1) := by decide +kernel
theorem dX9_look_197 : decode cX9_look 197 = .ok (.iaload, 1) := by decide +kernel
theorem dX9_look_198 : decode cX9_look 198 = .ok (.ifCond .ne 7, 3) := by decide +kernel
theorem dX9_look_201 : decode cX9_look 201 = .ok (.iconst 2, 1) := by decide +kernel
theorem dX9_look_202 : decode cX9_look 202 = .ok (.goto 14, 3) := by decide +kernel
theorem dX9_look_205 : decode cX9_look 205 = .ok (.aload_n 0, 1) := by decide +kernel
theorem dX9_look_206 : decode cX9_look 206 = .ok (.iload_n 1, 1) := by decide +kernel
theorem dX9_look_207 : decode cX9_look 207 = .ok (.aload_n 0, 1) := by decide +kernel
theorem dX9_look_208 : decode cX9_look 208 = .ok (.iload_n 1, 1) := by decide +kernel
theorem dX9_look_209 : decode cX9_look 209 = .ok (.invokevirtual 273, 3) := by decide +kernel
theorem dX9_look_212 : decode cX9_look 212 = .ok (.iconst (-1), 1) := by decide +kernel
theorem dX9_look_213 : decode cX9_look 213 = .ok (.invokevirtual 380, 3) := by decide +kernel
theorem dX9_look_216 : decode cX9_look 216 = .ok (.iload_n 1, 1) := by decide +kernel
theorem dX9_look_217 : decode cX9_look 217 = .ok (.iconst 1, 1) := by decide +kernel
theorem dX9_look_218 : decode cX9_look 218 = .ok (.iadd, 1) := by decide +kernel
theorem dX9_look_219 : decode cX9_look 219 = .ok (.invokevirtual 367, 3) := by decide +kernel
theorem dX9_look_222 : decode cX9_look 222 = .ok (.ireturn, 1) := by decide +kernel
theorem dX9_look_223 : decode cX9_look 223 = .ok (.aload_n 0, 1) := by decide +kernel
theorem dX9_look_224 : decode cX9_look 224 = .ok (.aload_n 0, 1) := by decide +kernel
theorem dX9_look_225 : decode cX9_look 225 = .ok (.getfield 106, 3) := by decide +kernel
theorem dX9_look_228 : decode cX9_look 228 = .ok (.aload_n 0, 1) := by decide +kernel
theorem dX9_look_229 : decode cX9_look 229 = .ok (.getfield 13, 3) := by decide +kernel
theorem dX9_look_232 : decode cX9_look 232 = .ok (.iload_n 1, 1) := by decide +kernel
theorem dX9_look_233 : decode cX9_look 233 = .ok (.iaload, 1) := by decide +kernel
theorem dX9_look_234 : decode cX9_look 234 = .ok (.iaload, 1) := by decide +kernel
theorem dX9_look_235 : decode cX9_look 235 = .ok (.ifCond .eq 17, 3) := by decide +kernel
theorem dX9_look_238 : decode cX9_look 238 = .ok (.aload_n 0, 1) := by decide +kernel
theorem dX9_look_239 : decode cX9_look 239 = .ok (.getfield 106, 3) := by decide +kernel
theorem dX9_look_242 : decode cX9_look 242 = .ok (.aload_n 0, 1) := by decide +kernel
theorem dX9_look_243 : decode cX9_look 243 = .ok (.getfield 16, 3) := by decide +kernel
theorem dX9_look_246 : decode cX9_look 246 = .ok (.iload_n 1, 1) := by decide +kernel
theorem dX9_look_247 : decode cX9_look 247 = .ok (.iaload, 1) := by decide +kernel
theorem dX9_look_248 : decode cX9_look 248 = .ok (.iaload, 1) := by decide +kernel
theorem dX9_look_249 : decode cX9_look 249 = .ok (.ifCond .ne 7, 3) := by decide +kernel
theorem dX9_look_252 : decode cX9_look 252 = .ok (.iconst 2, 1) := by decide +kernel
theorem dX9_look_253 : decode cX9_look 253 = .ok (.goto 19, 3) := by decide +kernel
theorem dX9_look_256 : decode cX9_look 256 = .ok (.aload_n 0, 1) := by decide +kernel
theorem dX9_look_257 : decode cX9_look 257 = .ok (.iload_n 1, 1) := by decide +kernel
theorem dX9_look_258 : decode cX9_look 258 = .ok (.aload_n 0, 1) := by decide +kernel
theorem dX9_look_259 : decode cX9_look 259 = .ok (.iload_n 1, 1) := by decide +kernel
theorem dX9_look_260 : decode cX9_look 260 = .ok (.invokevirtual 273, 3) := by decide +kernel
theorem dX9_look_263 : decode cX9_look 263 = .ok (.aload_n 0, 1) := by decide +kernel
theorem dX9_look_264 : decode cX9_look 264 = .ok (.getfield 16, 3) := by decide +kernel
theorem dX9_look_267 : decode cX9_look 267 = .ok (.iload_n 1, 1) := by decide +kernel
theorem dX9_look_268 : decode cX9_look 268 = .ok (.iaload, 1) := by decide +kernel
theorem dX9_look_269 : decode cX9_look 269 = .ok (.invokevirtual 380, 3) := by decide +kernel
theorem dX9_look_272 : decode cX9_look 272 = .ok (.iload_n 1, 1) := by decide +kernel
theorem dX9_look_273 : decode cX9_look 273 = .ok (.iconst 1, 1) := by decide +kernel
theorem dX9_look_274 : decode cX9_look 274 = .ok (.iadd, 1) := by decide +kernel
theorem dX9_look_275 : decode cX9_look 275 = .ok (.invokevirtual 367, 3) := by decide +kernel
theorem dX9_look_278 : decode cX9_look 278 = .ok (.ireturn, 1) := by decide +kernel
theorem dX9_look_279 : decode cX9_look 279 = .ok (.aload_n 0, 1) := by decide +kernel
theorem dX9_look_280 : decode cX9_look 280 = .ok (.aload_n 0, 1) := by decide +kernel
theorem dX9_look_281 : decode cX9_look 281 = .ok (.iload_n 1, 1) := by decide +kernel
theorem dX9_look_282 : decode cX9_look 282 = .ok (.aload_n 0, 1) := by decide +kernel
theorem dX9_look_283 : decode cX9_look 283 = .ok (.getfield 7, 3) := by decide +kernel
theorem dX9_look_286 : decode cX9_look 286 = .ok (.iload_n 1, 1) := by decide +kernel
theorem dX9_look_287 : decode cX9_look 287 = .ok (.iaload, 1) := by decide +kernel
theorem dX9_look_288 : decode cX9_look 288 = .ok (.sipush 219, 3) := by decide +kernel
theorem dX9_look_291 : decode cX9_look 291 = .ok (.if_icmp .ne 8, 3) := by decide +kernel
theorem dX9_look_294 : decode cX9_look 294 = .ok (.bipush 8, 2) := by decide +kernel
theorem dX9_look_296 : decode cX9_look 296 = .ok (.goto 4, 3) := by decide +kernel
theorem dX9_look_299 : decode cX9_look 299 = .ok (.iconst 4, 1) := by decide +kernel
theorem dX9_look_300 : decode cX9_look 300 = .ok (.invokevirtual 384, 3) := by decide +kernel
theorem dX9_look_303 : decode cX9_look 303 = .ok (.iload_n 1, 1) := by decide +kernel
theorem dX9_look_304 : decode cX9_look 304 = .ok (.iconst 1, 1) := by decide +kernel
theorem dX9_look_305 : decode cX9_look 305 = .ok (.iadd, 1) := by decide +kernel
theorem dX9_look_306 : decode cX9_look 306 = .ok (.invokevirtual 367, 3) := by decide +kernel
theorem dX9_look_309 : decode cX9_look 309 = .ok (.ireturn, 1) := by decide +kernel
theorem dX9_look_310 : decode cX9_look 310 = .ok (.aload_n 0, 1) := by decide +kernel
theorem dX9_look_311 : decode cX9_look 311 = .ok (.iload_n 1, 1) := by decide +kernel
theorem dX9_look_312 : decode cX9_look 312 = .ok (.invokevirtual 387, 3) := by decide +kernel
theorem dX9_look_315 : decode cX9_look 315 = .ok (.ireturn, 1) := by decide +kernel
theorem dX9_judge_0 : decode cX9_judge 0 = .ok (.aload_n 0, 1) := by decide +kernel
theorem dX9_judge_1 : decode cX9_judge 1 = .ok (.iconst (-1), 1) := by decide +kernel
theorem dX9_judge_2 : decode cX9_judge 2 = .ok (.putfield 124, 3) := by decide +kernel
theorem dX9_judge_5 : decode cX9_judge 5 = .ok (.iconst 0, 1) := by decide +kernel
theorem dX9_judge_6 : decode cX9_judge 6 = .ok (.istore_n 1, 1) := by decide +kernel
theorem dX9_judge_7 : decode cX9_judge 7 = .ok (.iload_n 1, 1) := by decide +kernel
theorem dX9_judge_8 : decode cX9_judge 8 = .ok (.sipush 200, 3) := by decide +kernel
theorem dX9_judge_11 : decode cX9_judge 11 = .ok (.if_icmp .ge 23, 3) := by decide +kernel
theorem dX9_judge_14 : decode cX9_judge 14 = .ok (.aload_n 0, 1) := by decide +kernel
theorem dX9_judge_15 : decode cX9_judge 15 = .ok (.getfield 66, 3) := by decide +kernel
theorem dX9_judge_18 : decode cX9_judge 18 = .ok (.iload_n 1, 1) := by decide +kernel
theorem dX9_judge_19 : decode cX9_judge 19 = .ok (.iconst 0, 1) := by decide +kernel
theorem dX9_judge_20 : decode cX9_judge 20 = .ok (.bastore, 1) := by decide +kernel
theorem dX9_judge_21 : decode cX9_judge 21 = .ok (.aload_n 0, 1) := by decide +kernel
theorem dX9_judge_22 : decode cX9_judge 22 = .ok (.getfield 69, 3) := by decide +kernel
theorem dX9_judge_25 : decode cX9_judge 25 = .ok (.iload_n 1, 1) := by decide +kernel
theorem dX9_judge_26 : decode cX9_judge 26 = .ok (.iconst 0, 1) := by decide +kernel
theorem dX9_judge_27 : decode cX9_judge 27 = .ok (.bastore, 1) := by decide +kernel
theorem dX9_judge_28 : decode cX9_judge 28 = .ok (.iinc 1 1, 3) := by decide +kernel
theorem dX9_judge_31 : decode cX9_judge 31 = .ok (.goto (-24), 3) := by decide +kernel
theorem dX9_judge_34 : decode cX9_judge 34 = .ok (.aload_n 0, 1) := by decide +kernel
theorem dX9_judge_35 : decode cX9_judge 35 = .ok (.getfield 147, 3) := by decide +kernel
theorem dX9_judge_38 : decode cX9_judge 38 = .ok (.ifCond .ne 11, 3) := by decide +kernel
theorem dX9_judge_41 : decode cX9_judge 41 = .ok (.aload_n 0, 1) := by decide +kernel
theorem dX9_judge_42 : decode cX9_judge 42 = .ok (.iconst 0, 1) := by decide +kernel
theorem dX9_judge_43 : decode cX9_judge 43 = .ok (.putfield 124, 3) := by decide +kernel
theorem dX9_judge_46 : decode cX9_judge 46 = .ok (.bipush 6, 2) := by decide +kernel
theorem dX9_judge_48 : decode cX9_judge 48 = .ok (.ireturn, 1) := by decide +kernel
theorem dX9_judge_49 : decode cX9_judge 49 = .ok (.iconst 0, 1) := by decide +kernel
theorem dX9_judge_50 : decode cX9_judge 50 = .ok (.istore_n 1, 1) := by decide +kernel
theorem dX9_judge_51 : decode cX9_judge 51 = .ok (.iload_n 1, 1) := by decide +kernel
theorem dX9_judge_52 : decode cX9_judge 52 = .ok (.aload_n 0, 1) := by decide +kernel
theorem dX9_judge_53 : decode cX9_judge 53 = .ok (.getfield 147, 3) := by decide +kernel
theorem dX9_judge_56 : decode cX9_judge 56 = .ok (.if_icmp .ge 42, 3) := by decide +kernel
theorem dX9_judge_59 : decode cX9_judge 59 = .ok (.aload_n 0, 1) := by decide +kernel
theorem dX9_judge_60 : decode cX9_judge 60 = .ok (.getfield 69, 3) := by decide +kernel
theorem dX9_judge_63 : decode cX9_judge 63 = .ok (.iload_n 1, 1) := by decide +kernel
theorem dX9_judge_64 : decode cX9_judge 64 = .ok (.iconst 1, 1) := by decide +kernel
theorem dX9_judge_65 : decode cX9_judge 65 = .ok (.iadd, 1) := by decide +kernel
theorem dX9_judge_66 : decode cX9_judge 66 = .ok (.aload_n 0, 1) := by decide +kernel
theorem dX9_judge_67 : decode cX9_judge 67 = .ok (.getfield 7, 3) := by decide +kernel
theorem dX9_judge_70 : decode cX9_judge 70 = .ok (.iload_n 1, 1) := by decide +kernel
theorem dX9_judge_71 : decode cX9_judge 71 = .ok (.iaload, 1) := by decide +kernel
theorem dX9_judge_72 : decode cX9_judge 72 = .ok (.bipush 24, 2) := by decide +kernel
theorem dX9_judge_74 : decode cX9_judge 74 = .ok (.if_icmp .ne 16, 3) := by decide +kernel
theorem dX9_judge_77 : decode cX9_judge 77 = .ok (.aload_n 0, 1) := by decide +kernel
theorem dX9_judge_78 : decode cX9_judge 78 = .ok (.getfield 69, 3) := by decide +kernel
theorem dX9_judge_81 : decode cX9_judge 81 = .ok (.iload_n 1, 1) := by decide +kernel
theorem dX9_judge_82 : decode cX9_judge 82 = .ok (.baload, 1) := by decide +kernel
theorem dX9_judge_83 : decode cX9_judge 83 = .ok (.ifCond .ne 7, 3) := by decide +kernel
theorem dX9_judge_86 : decode cX9_judge 86 = .ok (.iconst 1, 1) := by decide +kernel
theorem dX9_judge_87 : decode cX9_judge 87 = .ok (.goto 4, 3) := by decide +kernel
theorem dX9_judge_90 : decode cX9_judge 90 = .ok (.iconst 0, 1) := by decide +kernel
theorem dX9_judge_91 : decode cX9_judge 91 = .ok (.bastore, 1) := by decide +kernel
theorem dX9_judge_92 : decode cX9_judge 92 = .ok (.iinc 1 1, 3) := by decide +kernel
theorem dX9_judge_95 : decode cX9_judge 95 = .ok (.goto (-44), 3) := by decide +kernel
theorem dX9_judge_98 : decode cX9_judge 98 = .ok (.iconst 0, 1) := by decide +kernel
theorem dX9_judge_99 : decode cX9_judge 99 = .ok (.istore_n 1, 1) := by decide +kernel
theorem dX9_judge_100 : decode cX9_judge 100 = .ok (.iload_n 1, 1) := by decide +kernel
theorem dX9_judge_101 : decode cX9_judge 101 = .ok (.bipush 75, 2) := by decide +kernel
theorem dX9_judge_103 : decode cX9_judge 103 = .ok (.if_icmp .ge 14, 3) := by decide +kernel
theorem dX9_judge_106 : decode cX9_judge 106 = .ok (.aload_n 0, 1) := by decide +kernel
theorem dX9_judge_107 : decode cX9_judge 107 = .ok (.iload_n 1, 1) := by decide +kernel
theorem dX9_judge_108 : decode cX9_judge 108 = .ok (.invokevirtual 351, 3) := by decide +kernel
theorem dX9_judge_111 : decode cX9_judge 111 = .ok (.iinc 1 1, 3) := by decide +kernel
theorem dX9_judge_114 : decode cX9_judge 114 = .ok (.goto (-14), 3) := by decide +kernel
theorem dX9_judge_117 : decode cX9_judge 117 = .ok (.iconst 0, 1) := by decide +kernel
theorem dX9_judge_118 : decode cX9_judge 118 = .ok (.istore_n 1, 1) := by decide +kernel
theorem dX9_judge_119 : decode cX9_judge 119 = .ok (.iload_n 1, 1) := by decide +kernel
theorem dX9_judge_120 : decode cX9_judge 120 = .ok (.sipush 512, 3) := by decide +kernel
theorem dX9_judge_123 : decode cX9_judge 123 = .ok (.if_icmp .ge 16, 3) := by decide +kernel
theorem dX9_judge_126 : decode cX9_judge 126 = .ok (.aload_n 0, 1) := by decide +kernel
theorem dX9_judge_127 : decode cX9_judge 127 = .ok (.getfield 121, 3) := by decide +kernel
theorem dX9_judge_130 : decode cX9_judge 130 = .ok (.iload_n 1, 1) := by decide +kernel
theorem dX9_judge_131 : decode cX9_judge 131 = .ok (.iconst 0, 1) := by decide +kernel
theorem dX9_judge_132 : decode cX9_judge 132 = .ok (.bastore, 1) := by decide +kernel
theorem dX9_judge_133 : decode cX9_judge 133 = .ok (.iinc 1 1, 3) := by decide +kernel
theorem dX9_judge_136 : decode cX9_judge 136 = .ok (.goto (-17), 3) := by decide +kernel
theorem dX9_judge_139 : decode cX9_judge 139 = .ok (.aload_n 0, 1) := by decide +kernel
theorem dX9_judge_140 : decode cX9_judge 140 = .ok (.getfield 106, 3) := by decide +kernel
theorem dX9_judge_143 : decode cX9_judge 143 = .ok (.iconst 1, 1) := by decide +kernel
theorem dX9_judge_144 : decode cX9_judge 144 = .ok (.iconst 2, 1) := by decide +kernel
theorem dX9_judge_145 : decode cX9_judge 145 = .ok (.iastore, 1) := by decide +kernel
theorem dX9_judge_146 : decode cX9_judge 146 = .ok (.aload_n 0, 1) := by decide +kernel
theorem dX9_judge_147 : decode cX9_judge 147 = .ok (.getfield 106, 3) := by decide +kernel
theorem dX9_judge_150 : decode cX9_judge 150 = .ok (.bipush 10, 2) := by decide +kernel
theorem dX9_judge_152 : decode cX9_judge 152 = .ok (.iconst 3, 1) := by decide +kernel
theorem dX9_judge_153 : decode cX9_judge 153 = .ok (.iastore, 1) := by decide +kernel
theorem dX9_judge_154 : decode cX9_judge 154 = .ok (.aload_n 0, 1) := by decide +kernel
theorem dX9_judge_155 : decode cX9_judge 155 = .ok (.iconst 0, 1) := by decide +kernel
theorem dX9_judge_156 : decode cX9_judge 156 = .ok (.invokevirtual 355, 3) := by decide +kernel
theorem dX9_judge_159 : decode cX9_judge 159 = .ok (.iconst 0, 1) := by decide +kernel
theorem dX9_judge_160 : decode cX9_judge 160 = .ok (.istore_n 1, 1) := by decide +kernel
theorem dX9_judge_161 : decode cX9_judge 161 = .ok (.iload_n 1, 1) := by decide +kernel
theorem dX9_judge_162 : decode cX9_judge 162 = .ok (.aload_n 0, 1) := by decide +kernel
theorem dX9_judge_163 : decode cX9_judge 163 = .ok (.getfield 147, 3) := by decide +kernel
theorem dX9_judge_166 : decode cX9_judge 166 = .ok (.if_icmp .ge 45, 3) := by decide +kernel
theorem dX9_judge_169 : decode cX9_judge 169 = .ok (.aload_n 0, 1) := by decide +kernel
theorem dX9_judge_170 : decode cX9_judge 170 = .ok (.getfield 66, 3) := by decide +kernel
theorem dX9_judge_173 : decode cX9_judge 173 = .ok (.iload_n 1, 1) := by decide +kernel
theorem dX9_judge_174 : decode cX9_judge 174 = .ok (.baload, 1) := by decide +kernel
theorem dX9_judge_175 : decode cX9_judge 175 = .ok (.ifCond .eq 30, 3) := by decide +kernel
theorem dX9_judge_178 : decode cX9_judge 178 = .ok (.aload_n 0, 1) := by decide +kernel
theorem dX9_judge_179 : decode cX9_judge 179 = .ok (.iload_n 1, 1) := by decide +kernel
theorem dX9_judge_180 : decode cX9_judge 180 = .ok (.putfield 348, 3) := by decide +kernel
theorem dX9_judge_183 : decode cX9_judge 183 = .ok (.aload_n 0, 1) := by decide +kernel
theorem dX9_judge_184 : decode cX9_judge 184 = .ok (.iload_n 1, 1) := by decide +kernel
theorem dX9_judge_185 : decode cX9_judge 185 = .ok (.invokevirtual 358, 3) := by decide +kernel
theorem dX9_judge_188 : decode cX9_judge 188 = .ok (.aload_n 0, 1) := by decide +kernel
theorem dX9_judge_189 : decode cX9_judge 189 = .ok (.iload_n 1, 1) := by decide +kernel
theorem dX9_judge_190 : decode cX9_judge 190 = .ok (.invokevirtual 361, 3) := by decide +kernel
theorem dX9_judge_193 : decode cX9_judge 193 = .ok (.istore_n 2, 1) := by decide +kernel
theorem dX9_judge_194 : decode cX9_judge 194 = .ok (.iload_n 2, 1) := by decide +kernel
theorem dX9_judge_195 : decode cX9_judge 195 = .ok (.ifCond .le 10, 3) := by decide +kernel
theorem dX9_judge_198 : decode cX9_judge 198 = .ok (.aload_n 0, 1) := by decide +kernel
theorem dX9_judge_199 : decode cX9_judge 199 = .ok (.iload_n 1, 1) := by decide +kernel
theorem dX9_judge_200 : decode cX9_judge 200 = .ok (.putfield 124, 3) := by decide +kernel
theorem dX9_judge_203 : decode cX9_judge 203 = .ok (.iload_n 2, 1) := by decide +kernel
theorem dX9_judge_204 : decode cX9_judge 204 = .ok (.ireturn, 1) := by decide +kernel
theorem dX9_judge_205 : decode cX9_judge 205 = .ok (.iinc 1 1, 3) := by decide +kernel
theorem dX9_judge_208 : decode cX9_judge 208 = .ok (.goto (-47), 3) := by decide +kernel
theorem dX9_judge_211 : decode cX9_judge 211 = .ok (.iconst 0, 1) := by decide +kernel
theorem dX9_judge_212 : decode cX9_judge 212 = .ok (.ireturn, 1) := by decide +kernel
theorem dX9_place_0 : decode cX9_place 0 = .ok (.aload_n 0, 1) := by decide +kernel
theorem dX9_place_1 : decode cX9_place 1 = .ok (.getfield 124, 3) := by decide +kernel
theorem dX9_place_4 : decode cX9_place 4 = .ok (.ireturn, 1) := by decide +kernel
theorem dX9_may_0 : decode cX9_may 0 = .ok (.iload_n 1, 1) := by decide +kernel
theorem dX9_may_1 : decode cX9_may 1 = .ok (.i2l, 1) := by decide +kernel
theorem dX9_may_2 : decode cX9_may 2 = .ok (.lconst 0, 1) := by decide +kernel
theorem dX9_may_3 : decode cX9_may 3 = .ok (.aload_n 0, 1) := by decide +kernel
theorem dX9_may_4 : decode cX9_may 4 = .ok (.getfield 147, 3) := by decide +kernel
theorem dX9_may_7 : decode cX9_may 7 = .ok (.iconst 1, 1) := by decide +kernel
theorem dX9_may_8 : decode cX9_may 8 = .ok (.isub, 1) := by decide +kernel
theorem dX9_may_9 : decode cX9_may 9 = .ok (.i2l, 1) := by decide +kernel
theorem dX9_may_10 : decode cX9_may 10 = .ok (.invokestatic 132, 3) := by decide +kernel
theorem dX9_may_13 : decode cX9_may 13 = .ok (.ifCond .eq 15, 3) := by decide +kernel
theorem dX9_may_16 : decode cX9_may 16 = .ok (.iload_n 2, 1) := by decide +kernel
theorem dX9_may_17 : decode cX9_may 17 = .ok (.i2l, 1) := by decide +kernel
theorem dX9_may_18 : decode cX9_may 18 = .ok (.lconst 0, 1) := by decide +kernel
theorem dX9_may_19 : decode cX9_may 19 = .ok (.ldc2_w 327, 3) := by decide +kernel
theorem dX9_may_22 : decode cX9_may 22 = .ok (.invokestatic 132, 3) := by decide +kernel
theorem dX9_may_25 : decode cX9_may 25 = .ok (.ifCond .ne 7, 3) := by decide +kernel
theorem dX9_may_28 : decode cX9_may 28 = .ok (.ldc2_w 187, 3) := by decide +kernel
theorem dX9_may_31 : decode cX9_may 31 = .ok (.lreturn, 1) := by decide +kernel
theorem dX9_may_32 : decode cX9_may 32 = .ok (.iload_n 3, 1) := by decide +kernel
theorem dX9_may_33 : decode cX9_may 33 = .ok (.i2l, 1) := by decide +kernel
theorem dX9_may_34 : decode cX9_may 34 = .ok (.lconst 0, 1) := by decide +kernel
theorem dX9_may_35 : decode cX9_may 35 = .ok (.ldc2_w 485, 3) := by decide +kernel
theorem dX9_may_38 : decode cX9_may 38 = .ok (.invokestatic 132, 3) := by decide +kernel
theorem dX9_may_41 : decode cX9_may 41 = .ok (.ifCond .ne 7, 3) := by decide +kernel
theorem dX9_may_44 : decode cX9_may 44 = .ok (.ldc2_w 325, 3) := by decide +kernel
theorem dX9_may_47 : decode cX9_may 47 = .ok (.lreturn, 1) := by decide +kernel
theorem dX9_may_48 : decode cX9_may 48 = .ok (.bipush 11, 2) := by decide +kernel
theorem dX9_may_50 : decode cX9_may 50 = .ok (.iload_n 1, 1) := by decide +kernel
theorem dX9_may_51 : decode cX9_may 51 = .ok (.imul, 1) := by decide +kernel
theorem dX9_may_52 : decode cX9_may 52 = .ok (.iload_n 2, 1) := by decide +kernel
theorem dX9_may_53 : decode cX9_may 53 = .ok (.iadd, 1) := by decide +kernel
theorem dX9_may_54 : decode cX9_may 54 = .ok (.istore 4, 2) := by decide +kernel
theorem dX9_may_56 : decode cX9_may 56 = .ok (.aload_n 0, 1) := by decide +kernel
theorem dX9_may_57 : decode cX9_may 57 = .ok (.getfield 66, 3) := by decide +kernel
theorem dX9_may_60 : decode cX9_may 60 = .ok (.iload_n 1, 1) := by decide +kernel
theorem dX9_may_61 : decode cX9_may 61 = .ok (.baload, 1) := by decide +kernel
theorem dX9_may_62 : decode cX9_may 62 = .ok (.ifCond .ne 5, 3) := by decide +kernel
theorem dX9_may_65 : decode cX9_may 65 = .ok (.lconst 0, 1) := by decide +kernel
theorem dX9_may_66 : decode cX9_may 66 = .ok (.lreturn, 1) := by decide +kernel
theorem dX9_may_67 : decode cX9_may 67 = .ok (.iload_n 3, 1) := by decide +kernel
theorem dX9_may_68 : decode cX9_may 68 = .ok (.tableswitch 66 0 3 #[32, 41, 49, 57], 32) := by decide +kernel
theorem dX9_may_100 : decode cX9_may 100 = .ok (.aload_n 0, 1) := by decide +kernel
theorem dX9_may_101 : decode cX9_may 101 = .ok (.getfield 72, 3) := by decide +kernel
theorem dX9_may_104 : decode cX9_may 104 = .ok (.iload 4, 2) := by decide +kernel
theorem dX9_may_106 : decode cX9_may 106 = .ok (.iaload, 1) := by decide +kernel
theorem dX9_may_107 : decode cX9_may 107 = .ok (.i2l, 1) := by decide +kernel
theorem dX9_may_108 : decode cX9_may 108 = .ok (.lreturn, 1) := by decide +kernel
theorem dX9_may_109 : decode cX9_may 109 = .ok (.aload_n 0, 1) := by decide +kernel
theorem dX9_may_110 : decode cX9_may 110 = .ok (.getfield 75, 3) := by decide +kernel
theorem dX9_may_113 : decode cX9_may 113 = .ok (.iload 4, 2) := by decide +kernel
theorem dX9_may_115 : decode cX9_may 115 = .ok (.laload, 1) := by decide +kernel
theorem dX9_may_116 : decode cX9_may 116 = .ok (.lreturn, 1) := by decide +kernel
theorem dX9_may_117 : decode cX9_may 117 = .ok (.aload_n 0, 1) := by decide +kernel
theorem dX9_may_118 : decode cX9_may 118 = .ok (.getfield 78, 3) := by decide +kernel
theorem dX9_may_121 : decode cX9_may 121 = .ok (.iload 4, 2) := by decide +kernel
theorem dX9_may_123 : decode cX9_may 123 = .ok (.laload, 1) := by decide +kernel
theorem dX9_may_124 : decode cX9_may 124 = .ok (.lreturn, 1) := by decide +kernel
theorem dX9_may_125 : decode cX9_may 125 = .ok (.aload_n 0, 1) := by decide +kernel
theorem dX9_may_126 : decode cX9_may 126 = .ok (.getfield 81, 3) := by decide +kernel
theorem dX9_may_129 : decode cX9_may 129 = .ok (.iload 4, 2) := by decide +kernel
theorem dX9_may_131 : decode cX9_may 131 = .ok (.iaload, 1) := by decide +kernel
theorem dX9_may_132 : decode cX9_may 132 = .ok (.i2l, 1) := by decide +kernel
theorem dX9_may_133 : decode cX9_may 133 = .ok (.lreturn, 1) := by decide +kernel
theorem dX9_may_134 : decode cX9_may 134 = .ok (.aload_n 0, 1) := by decide +kernel
theorem dX9_may_135 : decode cX9_may 135 = .ok (.getfield 84, 3) := by decide +kernel
theorem dX9_may_138 : decode cX9_may 138 = .ok (.iload 4, 2) := by decide +kernel
theorem dX9_may_140 : decode cX9_may 140 = .ok (.iaload, 1) := by decide +kernel
theorem dX9_may_141 : decode cX9_may 141 = .ok (.i2l, 1) := by decide +kernel
theorem dX9_may_142 : decode cX9_may 142 = .ok (.lreturn, 1) := by decide +kernel
theorem dX9_cell_0 : decode cX9_cell 0 = .ok (.iload_n 1, 1) := by decide +kernel
theorem dX9_cell_1 : decode cX9_cell 1 = .ok (.i2l, 1) := by decide +kernel
theorem dX9_cell_2 : decode cX9_cell 2 = .ok (.lconst 0, 1) := by decide +kernel
theorem dX9_cell_3 : decode cX9_cell 3 = .ok (.aload_n 0, 1) := by decide +kernel
theorem dX9_cell_4 : decode cX9_cell 4 = .ok (.getfield 147, 3) := by decide +kernel
theorem dX9_cell_7 : decode cX9_cell 7 = .ok (.iconst 1, 1) := by decide +kernel
theorem dX9_cell_8 : decode cX9_cell 8 = .ok (.isub, 1) := by decide +kernel
theorem dX9_cell_9 : decode cX9_cell 9 = .ok (.i2l, 1) := by decide +kernel
theorem dX9_cell_10 : decode cX9_cell 10 = .ok (.invokestatic 132, 3) := by decide +kernel
theorem dX9_cell_13 : decode cX9_cell 13 = .ok (.ifCond .eq 17, 3) := by decide +kernel
theorem dX9_cell_16 : decode cX9_cell 16 = .ok (.iload_n 2, 1) := by decide +kernel
theorem dX9_cell_17 : decode cX9_cell 17 = .ok (.i2l, 1) := by decide +kernel
theorem dX9_cell_18 : decode cX9_cell 18 = .ok (.ldc2_w 464, 3) := by decide +kernel
theorem dX9_cell_21 : decode cX9_cell 21 = .ok (.ldc2_w 187, 3) := by decide +kernel
theorem dX9_cell_24 : decode cX9_cell 24 = .ok (.invokestatic 132, 3) := by decide +kernel
theorem dX9_cell_27 : decode cX9_cell 27 = .ok (.ifCond .ne 5, 3) := by decide +kernel
theorem dX9_cell_30 : decode cX9_cell 30 = .ok (.iconst (-1), 1) := by decide +kernel
theorem dX9_cell_31 : decode cX9_cell 31 = .ok (.ireturn, 1) := by decide +kernel
theorem dX9_cell_32 : decode cX9_cell 32 = .ok (.aload_n 0, 1) := by decide +kernel
theorem dX9_cell_33 : decode cX9_cell 33 = .ok (.getfield 66, 3) := by decide +kernel
theorem dX9_cell_36 : decode cX9_cell 36 = .ok (.iload_n 1, 1) := by decide +kernel
theorem dX9_cell_37 : decode cX9_cell 37 = .ok (.baload, 1) := by decide +kernel
theorem dX9_cell_38 : decode cX9_cell 38 = .ok (.ifCond .ne 5, 3) := by decide +kernel
theorem dX9_cell_41 : decode cX9_cell 41 = .ok (.iconst 0, 1) := by decide +kernel
theorem dX9_cell_42 : decode cX9_cell 42 = .ok (.ireturn, 1) := by decide +kernel
theorem dX9_cell_43 : decode cX9_cell 43 = .ok (.aload_n 0, 1) := by decide +kernel
theorem dX9_cell_44 : decode cX9_cell 44 = .ok (.getfield 91, 3) := by decide +kernel
theorem dX9_cell_47 : decode cX9_cell 47 = .ok (.bipush 64, 2) := by decide +kernel
theorem dX9_cell_49 : decode cX9_cell 49 = .ok (.iload_n 1, 1) := by decide +kernel
theorem dX9_cell_50 : decode cX9_cell 50 = .ok (.imul, 1) := by decide +kernel
theorem dX9_cell_51 : decode cX9_cell 51 = .ok (.iload_n 2, 1) := by decide +kernel
theorem dX9_cell_52 : decode cX9_cell 52 = .ok (.sipush 512, 3) := by decide +kernel
theorem dX9_cell_55 : decode cX9_cell 55 = .ok (.iadd, 1) := by decide +kernel
theorem dX9_cell_56 : decode cX9_cell 56 = .ok (.bipush 8, 2) := by decide +kernel
theorem dX9_cell_58 : decode cX9_cell 58 = .ok (.idiv, 1) := by decide +kernel
theorem dX9_cell_59 : decode cX9_cell 59 = .ok (.iadd, 1) := by decide +kernel
theorem dX9_cell_60 : decode cX9_cell 60 = .ok (.iaload, 1) := by decide +kernel
theorem dX9_cell_61 : decode cX9_cell 61 = .ok (.istore_n 3, 1) := by decide +kernel
theorem dX9_cell_62 : decode cX9_cell 62 = .ok (.iload_n 3, 1) := by decide +kernel
theorem dX9_cell_63 : decode cX9_cell 63 = .ok (.iconst 1, 1) := by decide +kernel
theorem dX9_cell_64 : decode cX9_cell 64 = .ok (.if_icmp .ne 7, 3) := by decide +kernel
theorem dX9_cell_67 : decode cX9_cell 67 = .ok (.iconst 2, 1) := by decide +kernel
theorem dX9_cell_68 : decode cX9_cell 68 = .ok (.goto 35, 3) := by decide +kernel
theorem dX9_cell_71 : decode cX9_cell 71 = .ok (.iload_n 3, 1) := by decide +kernel
theorem dX9_cell_72 : decode cX9_cell 72 = .ok (.ifCond .eq 7, 3) := by decide +kernel
theorem dX9_cell_75 : decode cX9_cell 75 = .ok (.iconst 3, 1) := by decide +kernel
theorem dX9_cell_76 : decode cX9_cell 76 = .ok (.goto 27, 3) := by decide +kernel
theorem dX9_cell_79 : decode cX9_cell 79 = .ok (.aload_n 0, 1) := by decide +kernel
theorem dX9_cell_80 : decode cX9_cell 80 = .ok (.getfield 88, 3) := by decide +kernel
theorem dX9_cell_83 : decode cX9_cell 83 = .ok (.sipush 512, 3) := by decide +kernel
theorem dX9_cell_86 : decode cX9_cell 86 = .ok (.iload_n 1, 1) := by decide +kernel
theorem dX9_cell_87 : decode cX9_cell 87 = .ok (.imul, 1) := by decide +kernel
theorem dX9_cell_88 : decode cX9_cell 88 = .ok (.iload_n 2, 1) := by decide +kernel
theorem dX9_cell_89 : decode cX9_cell 89 = .ok (.iadd, 1) := by decide +kernel
theorem dX9_cell_90 : decode cX9_cell 90 = .ok (.sipush 512, 3) := by decide +kernel
theorem dX9_cell_93 : decode cX9_cell 93 = .ok (.iadd, 1) := by decide +kernel
theorem dX9_cell_94 : decode cX9_cell 94 = .ok (.baload, 1) := by decide +kernel
theorem dX9_cell_95 : decode cX9_cell 95 = .ok (.ifCond .eq 7, 3) := by decide +kernel
theorem dX9_cell_98 : decode cX9_cell 98 = .ok (.iconst 1, 1) := by decide +kernel
theorem dX9_cell_99 : decode cX9_cell 99 = .ok (.goto 4, 3) := by decide +kernel
theorem dX9_cell_102 : decode cX9_cell 102 = .ok (.iconst 0, 1) := by decide +kernel
theorem dX9_cell_103 : decode cX9_cell 103 = .ok (.ireturn, 1) := by decide +kernel
-- JudgedCodeModel.look
def f_X9_look_300 (S : sh) (x1 : Int32) (os0 : Nat) (os1 : Nat) (xs2 : Int32) (xs3 : Int32) (D : dt) : Option (Int32 × dt) := cq (f_X9_lookBoth S os1 xs2 xs3 D) fun r141 D142 => cq (f_X9_onward S os0 r141 (x1 + (1 : Int32)) D142) fun r144 D145 => some (r144, D145)
def f_X9_look_272 (S : sh) (x1 : Int32) (os0 : Nat) (xs1 : Int32) (D : dt) : Option (Int32 × dt) := cq (f_X9_onward S os0 xs1 (x1 + (1 : Int32)) D) fun r147 D148 => some (r147, D148)
def f_X9_look_118 (S : sh) (os0 : Nat) (xs1 : Int32) (xs2 : Int32) (xs3 : Int32) (D : dt) : Option (Int32 × dt) := cq (f_X9_onward S os0 xs1 (xs2 + xs3) D) fun r150 D151 => some (r150, D151)
def f_X9_look_216 (S : sh) (x1 : Int32) (os0 : Nat) (xs1 : Int32) (D : dt) : Option (Int32 × dt) := cq (f_X9_onward S os0 xs1 (x1 + (1 : Int32)) D) fun r153 D154 => some (r153, D154)
def f_X9_look_252 (S : sh) (x1 : Int32) (os0 : Nat) (D : dt) : Option (Int32 × dt) := f_X9_look_272 S x1 os0 (2 : Int32) D
def f_X9_look (S : sh) (o0 : Nat) (x1 : Int32) (D : dt) : Option (Int32 × dt) := pq (f_X9_kindOf S D o0 x1) fun r156 => if r156 = 0 then (some ((1 : Int32), D)) else if r156 = 1 then (cq (f_X9_lookRegister S o0 x1 D) fun r160 D161 => cq (f_X9_onward S o0 r160 (x1 + (1 : Int32)) D161) fun r163 D164 => some (r163, D164)) else if r156 = 2 then (cq (f_X9_lookJump S o0 x1 D) fun r167 D168 => some (r167, D168)) else if r156 = 3 then (rq (gR D o0 1) fun o170 => ix x1 (sA S o170) <| if ((gI D o170 x1.toNatClampNeg) &&& (7 : Int32)) = (5 : Int32) then (rq (gR D o0 4) fun o181 => ix x1 (sA S o181) <| f_X9_look_118 S o0 (0 : Int32) (x1 + (1 : Int32)) (gI D o181 x1.toNatClampNeg) D) else (rq (gR D o0 5) fun o176 => ix x1 (sA S o176) <| f_X9_look_118 S o0 (0 : Int32) (x1 + (1 : Int32)) (gI D o176 x1.toNatClampNeg) D)) else if r156 = 4 then (rq (gR D o0 40) fun o187 => ix (0 : Int32) (sA S o187) <| if (gI D o187 (0 : Int32).toNatClampNeg) = (1 : Int32) then (some ((0 : Int32), D)) else (some ((5 : Int32), D))) else if r156 = 5 then (rq (gR D o0 5) fun o194 => ix x1 (sA S o194) <| cq (f_X9_lookCall S o0 x1 (gI D o194 x1.toNatClampNeg) D) fun r200 D201 => cq (f_X9_onward S o0 r200 (x1 + (1 : Int32)) D201) fun r203 D204 => some (r203, D204)) else if r156 = 6 then (cq (f_X9_lookLoad S o0 x1 (0 : Int32) D) fun r207 D208 => cq (f_X9_onward S o0 r207 (x1 + (1 : Int32)) D208) fun r210 D211 => some (r210, D211)) else if r156 = 7 then (cq (f_X9_lookLoad S o0 x1 (1 : Int32) D) fun r214 D215 => cq (f_X9_onward S o0 r214 (x1 + (1 : Int32)) D215) fun r217 D218 => some (r217, D218)) else if r156 = 8 then (rq (gR D o0 40) fun o220 => rq (gR D o0 2) fun o224 => ix x1 (sA S o224) <| ix (gI D o224 x1.toNatClampNeg) (sA S o220) <| if (gI D o220 (gI D o224 x1.toNatClampNeg).toNatClampNeg) = 0 then (f_X9_look_216 S x1 o0 (2 : Int32) D) else (pq (f_X9_widthOf S D o0 x1) fun r232 => cq (f_X9_lookPut S o0 x1 r232 (-1 : Int32) D) fun r234 D235 => f_X9_look_216 S x1 o0 r234 D235)) else if r156 = 9 then (rq (gR D o0 40) fun o237 => rq (gR D o0 2) fun o241 => ix x1 (sA S o241) <| ix (gI D o241 x1.toNatClampNeg) (sA S o237) <| if (gI D o237 (gI D o241 x1.toNatClampNeg).toNatClampNeg) = 0 then (f_X9_look_252 S x1 o0 D) else (rq (gR D o0 40) fun o248 => rq (gR D o0 3) fun o252 => ix x1 (sA S o252) <| ix (gI D o252 x1.toNatClampNeg) (sA S o248) <| if (gI D o248 (gI D o252 x1.toNatClampNeg).toNatClampNeg) = 0 then (f_X9_look_252 S x1 o0 D) else (pq (f_X9_widthOf S D o0 x1) fun r260 => rq (gR D o0 3) fun o261 => ix x1 (sA S o261) <| cq (f_X9_lookPut S o0 x1 r260 (gI D o261 x1.toNatClampNeg) D) fun r267 D268 => f_X9_look_272 S x1 o0 r267 D268))) else if r156 = 10 then (rq (gR D o0 1) fun o270 => ix x1 (sA S o270) <| if (gI D o270 x1.toNatClampNeg) = (219 : Int32) then (f_X9_look_300 S x1 o0 o0 x1 (8 : Int32) D) else (f_X9_look_300 S x1 o0 o0 x1 (4 : Int32) D)) else (cq (f_X9_lookWide S o0 x1 D) fun r277 D278 => some (r277, D278))
-- JudgedCodeModel.judge
def f_X9_judge_205 (S : sh) (k161 : Nat → Int32 → dt → Option (Int32 × dt)) (o0 : Nat) (x1 : Int32) (D : dt) : Option (Int32 × dt) := nm (x1 + 1) fun y85 => k161 o0 y85 D
def f_X9_judge_161 (S : sh) : Nat → Nat → Int32 → dt → Option (Int32 × dt)
  | 0, _, _, _ => none
  | n + 1, o0, x1, D => if (gI D o0 0) ≤ x1 then (some ((0 : Int32), D)) else (rq (gR D o0 27) fun o87 => ix x1 (sA S o87) <| if (gI D o87 x1.toNatClampNeg) = 0 then (f_X9_judge_205 S (f_X9_judge_161 S n) o0 x1 D) else (nm (pI D o0 46 x1) fun D93 => cq (f_X9_take S o0 x1 D93) fun _ D95 => cq (f_X9_look S o0 x1 D95) fun r97 D98 => if r97 ≤ 0 then (f_X9_judge_205 S (f_X9_judge_161 S n) o0 x1 D98) else (nm (pI D98 o0 26 x1) fun D100 => some (r97, D100))))
def f_X9_judge_119 (S : sh) : Nat → Nat → Int32 → dt → Option (Int32 × dt)
  | 0, _, _, _ => none
  | n + 1, o0, x1, D => if (512 : Int32) ≤ x1 then (rq (gR D o0 40) fun o102 => ix (1 : Int32) (sA S o102) <| nm (pI D o102 (1 : Int32).toNatClampNeg (2 : Int32)) fun D107 => rq (gR D107 o0 40) fun o108 => ix (10 : Int32) (sA S o108) <| nm (pI D107 o108 (10 : Int32).toNatClampNeg (3 : Int32)) fun D113 => cq (f_X9_goTo S o0 (0 : Int32) D113) fun _ D115 => nm ((0 : Int32)) fun y116 => f_X9_judge_161 S LF o0 y116 D115) else (rq (gR D o0 45) fun o117 => ix x1 (sA S o117) <| nm (pI D o117 x1.toNatClampNeg (vp_nar .boolean (0 : Int32))) fun D122 => nm (x1 + 1) fun y123 => f_X9_judge_119 S n o0 y123 D122)
def f_X9_judge_100 (S : sh) : Nat → Nat → Int32 → dt → Option (Int32 × dt)
  | 0, _, _, _ => none
  | n + 1, o0, x1, D => if (75 : Int32) ≤ x1 then (nm ((0 : Int32)) fun y125 => f_X9_judge_119 S LF o0 y125 D) else (cq (f_X9_forget S o0 x1 D) fun _ D127 => nm (x1 + 1) fun y128 => f_X9_judge_100 S n o0 y128 D127)
def f_X9_judge_91 (S : sh) (k51 : Nat → Int32 → dt → Option (Int32 × dt)) (o0 : Nat) (x1 : Int32) (os0 : Nat) (xs1 : Int32) (xs2 : Int32) (D : dt) : Option (Int32 × dt) := ix xs1 (sA S os0) <| nm (pI D os0 xs1.toNatClampNeg (vp_nar .boolean xs2)) fun D130 => nm (x1 + 1) fun y131 => k51 o0 y131 D130
def f_X9_judge_90 (S : sh) (k51 : Nat → Int32 → dt → Option (Int32 × dt)) (o0 : Nat) (x1 : Int32) (os0 : Nat) (xs1 : Int32) (D : dt) : Option (Int32 × dt) := f_X9_judge_91 S k51 o0 x1 os0 xs1 (0 : Int32) D
def f_X9_judge_51 (S : sh) : Nat → Nat → Int32 → dt → Option (Int32 × dt)
  | 0, _, _, _ => none
  | n + 1, o0, x1, D => if (gI D o0 0) ≤ x1 then (nm ((0 : Int32)) fun y133 => f_X9_judge_100 S LF o0 y133 D) else (rq (gR D o0 28) fun o134 => rq (gR D o0 1) fun o138 => ix x1 (sA S o138) <| if (gI D o138 x1.toNatClampNeg) = (24 : Int32) then (rq (gR D o0 28) fun o144 => ix x1 (sA S o144) <| if (gI D o144 x1.toNatClampNeg) = 0 then (f_X9_judge_91 S (f_X9_judge_51 S n) o0 x1 o134 (x1 + (1 : Int32)) (1 : Int32) D) else (f_X9_judge_90 S (f_X9_judge_51 S n) o0 x1 o134 (x1 + (1 : Int32)) D)) else (f_X9_judge_90 S (f_X9_judge_51 S n) o0 x1 o134 (x1 + (1 : Int32)) D))
def f_X9_judge_7 (S : sh) : Nat → Nat → Int32 → dt → Option (Int32 × dt)
  | 0, _, _, _ => none
  | n + 1, o0, x1, D => if (200 : Int32) ≤ x1 then (if (gI D o0 0) = 0 then (nm (pI D o0 26 (0 : Int32)) fun D153 => some ((6 : Int32), D153)) else (nm ((0 : Int32)) fun y152 => f_X9_judge_51 S LF o0 y152 D)) else (rq (gR D o0 27) fun o154 => ix x1 (sA S o154) <| nm (pI D o154 x1.toNatClampNeg (vp_nar .boolean (0 : Int32))) fun D159 => rq (gR D159 o0 28) fun o160 => ix x1 (sA S o160) <| nm (pI D159 o160 x1.toNatClampNeg (vp_nar .boolean (0 : Int32))) fun D165 => nm (x1 + 1) fun y166 => f_X9_judge_7 S n o0 y166 D165)
def f_X9_judge (S : sh) (o0 : Nat) (D : dt) : Option (Int32 × dt) := nm (pI D o0 26 (-1 : Int32)) fun D167 => nm ((0 : Int32)) fun y168 => f_X9_judge_7 S LF o0 y168 D167
-- JudgedCodeModel.place
def f_X9_place (S : sh) (D : dt) (o0 : Nat) : Option Int32 := some (gI D o0 26)
-- JudgedCodeModel.may
def f_X9_may_28 (S : sh) (D : dt) : Option Int64 := some (-1 : Int64)
def f_X9_may (S : sh) (D : dt) (o0 : Nat) (x1 : Int32) (x2 : Int32) (x3 : Int32) : Option Int64 := pq (f_X9_in x1.toInt64 (0 : Int64) (((gI D o0 0) - (1 : Int32)).toInt64)) fun r47 => if r47 = 0 then (f_X9_may_28 S D) else (pq (f_X9_in x2.toInt64 (0 : Int64) (10 : Int64)) fun r50 => if r50 = 0 then (f_X9_may_28 S D) else (pq (f_X9_in x3.toInt64 (0 : Int64) (4 : Int64)) fun r53 => if r53 = 0 then (some (-2 : Int64)) else (nm (((11 : Int32) * x1) + x2) fun y55 => rq (gR D o0 27) fun o56 => ix x1 (sA S o56) <| if (gI D o56 x1.toNatClampNeg) = 0 then (some (0 : Int64)) else (if x3 = 0 then (rq (gR D o0 29) fun o63 => ix y55 (sA S o63) <| some ((gI D o63 y55.toNatClampNeg).toInt64)) else if x3 = 1 then (rq (gR D o0 30) fun o69 => ix y55 (sA S o69) <| some (gL D o69 y55.toNatClampNeg)) else if x3 = 2 then (rq (gR D o0 31) fun o75 => ix y55 (sA S o75) <| some (gL D o75 y55.toNatClampNeg)) else if x3 = 3 then (rq (gR D o0 32) fun o81 => ix y55 (sA S o81) <| some ((gI D o81 y55.toNatClampNeg).toInt64)) else (rq (gR D o0 33) fun o86 => ix y55 (sA S o86) <| some ((gI D o86 y55.toNatClampNeg).toInt64))))))
-- JudgedCodeModel.cell
def f_X9_cell (S : sh) (D : dt) (o0 : Nat) (x1 : Int32) (x2 : Int32) : Option Int32 := pq (f_X9_in x1.toInt64 (0 : Int64) (((gI D o0 0) - (1 : Int32)).toInt64)) fun r28 => if r28 = 0 then (some (-1 : Int32)) else (pq (f_X9_in x2.toInt64 (-512 : Int64) (-1 : Int64)) fun r31 => if r31 = 0 then (some (-1 : Int32)) else (rq (gR D o0 27) fun o33 => ix x1 (sA S o33) <| if (gI D o33 x1.toNatClampNeg) = 0 then (some (0 : Int32)) else (rq (gR D o0 35) fun o39 => ix (((64 : Int32) * x1) + ((x2 + (512 : Int32)) / (8 : Int32))) (sA S o39) <| nm (gI D o39 (((64 : Int32) * x1) + ((x2 + (512 : Int32)) / (8 : Int32))).toNatClampNeg) fun y44 => if y44 = (1 : Int32) then (some (2 : Int32)) else (if y44 = 0 then (rq (gR D o0 34) fun o47 => ix ((((512 : Int32) * x1) + x2) + (512 : Int32)) (sA S o47) <| if (gI D o47 ((((512 : Int32) * x1) + x2) + (512 : Int32)).toNatClampNeg) = 0 then (some (0 : Int32)) else (some (1 : Int32))) else (some (3 : Int32))))))
theorem mk_X9_look : MkV yX9_look RX9 cX9_look 2 (some .int) 1 := ⟨⟨lk_1478, lk_89, lk_121, (tb_in (i := 1479) (by decide +kernel) (by decide +kernel))⟩, by decide +kernel⟩
theorem mk_X9_judge : MkV yX9_judge RX9 cX9_judge 3 (some .int) 0 := ⟨⟨lk_1451, lk_1452, lk_121, (tb_in (i := 1453) (by decide +kernel) (by decide +kernel))⟩, by decide +kernel⟩
theorem mk_X9_place : MkV yX9_place RX9 cX9_place 1 (some .int) 0 := ⟨⟨lk_1596, lk_1597, lk_121, (tb_in (i := 1598) (by decide +kernel) (by decide +kernel))⟩, by decide +kernel⟩
theorem mk_X9_may : MkV yX9_may RX9 cX9_may 5 (some .long) 3 := ⟨⟨lk_1600, lk_1601, lk_121, (tb_in (i := 1602) (by decide +kernel) (by decide +kernel))⟩, by decide +kernel⟩
theorem mk_X9_cell : MkV yX9_cell RX9 cX9_cell 4 (some .int) 2 := ⟨⟨lk_1605, lk_1606, lk_121, (tb_in (i := 1607) (by decide +kernel) (by decide +kernel))⟩, by decide +kernel⟩
section
variable {p : Program} {l : Launch} {e : Env} {R : Room} {s : State} {m : MethodId} {args : Array Value} {below : List Frame} {meth : Method} {c : Code} {H : Heap} {locs : List Loc} {G : va_G} {cA : Nat → ClassId} {S : sh} {D : dt} {ad : Nat → Nat} {A : Nat → Prop}
set_option maxHeartbeats 4000000 in
set_option maxRecDepth 100000 in
theorem w_X9_look_300 {r : Int32} {D' : dt} (hC : Cx RX9 cX9_look 2 (some .int) p s m args meth c) (hR : 7 ≤ R.frames ∧ 207 ≤ R.locals) : ∀ (x1 : Int32) (os0 as0 : Nat) (os1 as1 : Nat) (xs2 : Int32) (xs3 : Int32) (D : dt) (H : Heap) (locs : List Loc) (ls : Array Slot), Is S ad os0 as0 8 → Is S ad os1 as1 8 → Wd G cA S D ad A s H locs → lv_has ls 2 [(1, .int x1)] → f_X9_look_300 S x1 os0 os1 xs2 xs3 D = some (r, D') → W p l e R s m args below meth c H locs 0 0 (MQ below (Qn (some (.int r)) True (wpost G cA S D' ad A) A) args s 0 0 A) (F0 m 300 ls [.int xs3, .int xs2, .ref as1, .ref as0]) := by
  obtain ⟨hx, hb, -⟩ := id hC
  intro x1 os0 as0 os1 as1 xs2 xs3 D H locs ls his0 his1 hw hl h
  unfold f_X9_look_300 at h
  obtain ⟨r141, D142, hq140, h⟩ := cq_i h
  refine r_cV (st' := [.int r141, .ref as0]) [.int xs2, .int xs3] [.ref as0] hC hw kc_8 his1 (k_X9_lookBoth _ his1 hq140) mk_X9_lookBoth lk_1587 ⟨Nat.le_trans (by decide) hR.1, Nat.le_trans (by decide) hR.2⟩ ⟨Nat.zero_le _, Nat.zero_le _⟩ rfl hl.1 rfl rfl (Nat.le_of_ble_eq_true rfl) dX9_look_300 (fun hP H locs hw => ?_)
  refine lv_iload_n hx hb dX9_look_303 rfl (lv_at hl 0 rfl) ?_
  refine lv_iconst (v := 1) hx hb dX9_look_304 (by decide) ?_
  refine lv_iadd hx hb dX9_look_305 ?_
  obtain ⟨r144, D145, hq143, h⟩ := cq_i h
  refine r_cV (st' := [.int r144]) [.int r141, .int (x1 + (1 : Int32))] [] hC hw kc_8 his0 (k_X9_onward _ his0 hq143) mk_X9_onward lk_1519 ⟨Nat.le_trans (by decide) hR.1, Nat.le_trans (by decide) hR.2⟩ ⟨Nat.zero_le _, Nat.zero_le _⟩ rfl hl.1 rfl rfl (Nat.le_of_ble_eq_true rfl) dX9_look_306 (fun hP H locs hw => ?_)
  cases h
  exact r_iret hC hw dX9_look_309
set_option maxHeartbeats 4000000 in
set_option maxRecDepth 100000 in
theorem w_X9_look_272 {r : Int32} {D' : dt} (hC : Cx RX9 cX9_look 2 (some .int) p s m args meth c) (hR : 7 ≤ R.frames ∧ 207 ≤ R.locals) : ∀ (x1 : Int32) (os0 as0 : Nat) (xs1 : Int32) (D : dt) (H : Heap) (locs : List Loc) (ls : Array Slot), Is S ad os0 as0 8 → Wd G cA S D ad A s H locs → lv_has ls 2 [(1, .int x1)] → f_X9_look_272 S x1 os0 xs1 D = some (r, D') → W p l e R s m args below meth c H locs 0 0 (MQ below (Qn (some (.int r)) True (wpost G cA S D' ad A) A) args s 0 0 A) (F0 m 272 ls [.int xs1, .ref as0]) := by
  obtain ⟨hx, hb, -⟩ := id hC
  intro x1 os0 as0 xs1 D H locs ls his0 hw hl h
  unfold f_X9_look_272 at h
  refine lv_iload_n hx hb dX9_look_272 rfl (lv_at hl 0 rfl) ?_
  refine lv_iconst (v := 1) hx hb dX9_look_273 (by decide) ?_
  refine lv_iadd hx hb dX9_look_274 ?_
  obtain ⟨r147, D148, hq146, h⟩ := cq_i h
  refine r_cV (st' := [.int r147]) [.int xs1, .int (x1 + (1 : Int32))] [] hC hw kc_8 his0 (k_X9_onward _ his0 hq146) mk_X9_onward lk_1519 ⟨Nat.le_trans (by decide) hR.1, Nat.le_trans (by decide) hR.2⟩ ⟨Nat.zero_le _, Nat.zero_le _⟩ rfl hl.1 rfl rfl (Nat.le_of_ble_eq_true rfl) dX9_look_275 (fun hP H locs hw => ?_)
  cases h
  exact r_iret hC hw dX9_look_278
set_option maxHeartbeats 4000000 in
set_option maxRecDepth 100000 in
theorem w_X9_look_118 {r : Int32} {D' : dt} (hC : Cx RX9 cX9_look 2 (some .int) p s m args meth c) (hR : 7 ≤ R.frames ∧ 207 ≤ R.locals) : ∀ (os0 as0 : Nat) (xs1 : Int32) (xs2 : Int32) (xs3 : Int32) (D : dt) (H : Heap) (locs : List Loc) (ls : Array Slot), Is S ad os0 as0 8 → Wd G cA S D ad A s H locs → lv_has ls 2 [] → f_X9_look_118 S os0 xs1 xs2 xs3 D = some (r, D') → W p l e R s m args below meth c H locs 0 0 (MQ below (Qn (some (.int r)) True (wpost G cA S D' ad A) A) args s 0 0 A) (F0 m 118 ls [.int xs3, .int xs2, .int xs1, .ref as0]) := by
  obtain ⟨hx, hb, -⟩ := id hC
  intro os0 as0 xs1 xs2 xs3 D H locs ls his0 hw hl h
  unfold f_X9_look_118 at h
  refine lv_iadd hx hb dX9_look_118 ?_
  obtain ⟨r150, D151, hq149, h⟩ := cq_i h
  refine r_cV (st' := [.int r150]) [.int xs1, .int (xs2 + xs3)] [] hC hw kc_8 his0 (k_X9_onward _ his0 hq149) mk_X9_onward lk_1519 ⟨Nat.le_trans (by decide) hR.1, Nat.le_trans (by decide) hR.2⟩ ⟨Nat.zero_le _, Nat.zero_le _⟩ rfl hl.1 rfl rfl (Nat.le_of_ble_eq_true rfl) dX9_look_119 (fun hP H locs hw => ?_)
  cases h
  exact r_iret hC hw dX9_look_122
set_option maxHeartbeats 4000000 in
set_option maxRecDepth 100000 in
theorem w_X9_look_216 {r : Int32} {D' : dt} (hC : Cx RX9 cX9_look 2 (some .int) p s m args meth c) (hR : 7 ≤ R.frames ∧ 207 ≤ R.locals) : ∀ (x1 : Int32) (os0 as0 : Nat) (xs1 : Int32) (D : dt) (H : Heap) (locs : List Loc) (ls : Array Slot), Is S ad os0 as0 8 → Wd G cA S D ad A s H locs → lv_has ls 2 [(1, .int x1)] → f_X9_look_216 S x1 os0 xs1 D = some (r, D') → W p l e R s m args below meth c H locs 0 0 (MQ below (Qn (some (.int r)) True (wpost G cA S D' ad A) A) args s 0 0 A) (F0 m 216 ls [.int xs1, .ref as0]) := by
  obtain ⟨hx, hb, -⟩ := id hC
  intro x1 os0 as0 xs1 D H locs ls his0 hw hl h
  unfold f_X9_look_216 at h
  refine lv_iload_n hx hb dX9_look_216 rfl (lv_at hl 0 rfl) ?_
  refine lv_iconst (v := 1) hx hb dX9_look_217 (by decide) ?_
  refine lv_iadd hx hb dX9_look_218 ?_
  obtain ⟨r153, D154, hq152, h⟩ := cq_i h
  refine r_cV (st' := [.int r153]) [.int xs1, .int (x1 + (1 : Int32))] [] hC hw kc_8 his0 (k_X9_onward _ his0 hq152) mk_X9_onward lk_1519 ⟨Nat.le_trans (by decide) hR.1, Nat.le_trans (by decide) hR.2⟩ ⟨Nat.zero_le _, Nat.zero_le _⟩ rfl hl.1 rfl rfl (Nat.le_of_ble_eq_true rfl) dX9_look_219 (fun hP H locs hw => ?_)
  cases h
  exact r_iret hC hw dX9_look_222
set_option maxHeartbeats 4000000 in
set_option maxRecDepth 100000 in
theorem w_X9_look_252 {r : Int32} {D' : dt} (hC : Cx RX9 cX9_look 2 (some .int) p s m args meth c) (hR : 7 ≤ R.frames ∧ 207 ≤ R.locals) : ∀ (x1 : Int32) (os0 as0 : Nat) (D : dt) (H : Heap) (locs : List Loc) (ls : Array Slot), Is S ad os0 as0 8 → Wd G cA S D ad A s H locs → lv_has ls 2 [(1, .int x1)] → f_X9_look_252 S x1 os0 D = some (r, D') → W p l e R s m args below meth c H locs 0 0 (MQ below (Qn (some (.int r)) True (wpost G cA S D' ad A) A) args s 0 0 A) (F0 m 252 ls [.ref as0]) := by
  obtain ⟨hx, hb, -⟩ := id hC
  intro x1 os0 as0 D H locs ls his0 hw hl h
  unfold f_X9_look_252 at h
  refine lv_iconst (v := 2) hx hb dX9_look_252 (by decide) ?_
  refine lv_goto (tgt := 272) hx hb dX9_look_253 (by decide) ?_
  exact w_X9_look_272 hC hR x1 os0 as0 (2 : Int32) _ _ _ _ his0 hw (lv_sub hl [0] rfl) h
set_option maxHeartbeats 4000000 in
set_option maxRecDepth 100000 in
theorem w_X9_look_0 {r : Int32} {D' : dt} (hC : Cx RX9 cX9_look 2 (some .int) p s m args meth c) (hR : 7 ≤ R.frames ∧ 207 ≤ R.locals) : ∀ (o0 a0 : Nat) (x1 : Int32) (D : dt) (H : Heap) (locs : List Loc) (ls : Array Slot), Is S ad o0 a0 8 → Wd G cA S D ad A s H locs → lv_has ls 2 [(0, .ref a0), (1, .int x1)] → f_X9_look S o0 x1 D = some (r, D') → W p l e R s m args below meth c H locs 0 0 (MQ below (Qn (some (.int r)) True (wpost G cA S D' ad A) A) args s 0 0 A) (F0 m 0 ls []) := by
  obtain ⟨hx, hb, -⟩ := id hC
  intro o0 a0 x1 D H locs ls hi0 hw hl h
  unfold f_X9_look at h
  refine lv_aload_n hx hb dX9_look_0 rfl (lv_at hl 0 rfl) ?_
  refine lv_iload_n hx hb dX9_look_1 rfl (lv_at hl 1 rfl) ?_
  obtain ⟨r156, hq155, h⟩ := pq_i h
  refine r_cV (st' := [.int r156]) [.int x1] [] hC hw kc_8 hi0 (k_X9_kindOf _ hi0 hq155) mk_X9_kindOf lk_1312 ⟨Nat.le_trans (by decide) hR.1, Nat.le_trans (by decide) hR.2⟩ ⟨Nat.zero_le _, Nat.zero_le _⟩ rfl hl.1 rfl rfl (Nat.le_of_ble_eq_true rfl) dX9_look_2 (fun hP H locs hw => ?_)
  by_cases c157 : r156 = 0
  · have h := i_yes c157 h
    refine lv_tableIn (off := 59) (tgt := 64) hx hb dX9_look_5 (by rw [c157]; decide) (by rw [c157]; decide) (by rw [c157] <;> rfl) (by decide) ?_
    refine lv_iconst (v := 1) hx hb dX9_look_64 (by decide) ?_
    cases h
    exact r_iret hC hw dX9_look_65
  have h := i_no c157 h
  by_cases c158 : r156 = 1
  · have h := i_yes c158 h
    refine lv_tableIn (off := 61) (tgt := 66) hx hb dX9_look_5 (by rw [c158]; decide) (by rw [c158]; decide) (by rw [c158] <;> rfl) (by decide) ?_
    refine lv_aload_n hx hb dX9_look_66 rfl (lv_at hl 0 rfl) ?_
    refine lv_aload_n hx hb dX9_look_67 rfl (lv_at hl 0 rfl) ?_
    refine lv_iload_n hx hb dX9_look_68 rfl (lv_at hl 1 rfl) ?_
    obtain ⟨r160, D161, hq159, h⟩ := cq_i h
    refine r_cV (st' := [.int r160, .ref a0]) [.int x1] [.ref a0] hC hw kc_8 hi0 (k_X9_lookRegister _ hi0 hq159) mk_X9_lookRegister lk_1480 ⟨Nat.le_trans (by decide) hR.1, Nat.le_trans (by decide) hR.2⟩ ⟨Nat.zero_le _, Nat.zero_le _⟩ rfl hl.1 rfl rfl (Nat.le_of_ble_eq_true rfl) dX9_look_69 (fun hP H locs hw => ?_)
    refine lv_iload_n hx hb dX9_look_72 rfl (lv_at hl 1 rfl) ?_
    refine lv_iconst (v := 1) hx hb dX9_look_73 (by decide) ?_
    refine lv_iadd hx hb dX9_look_74 ?_
    obtain ⟨r163, D164, hq162, h⟩ := cq_i h
    refine r_cV (st' := [.int r163]) [.int r160, .int (x1 + (1 : Int32))] [] hC hw kc_8 hi0 (k_X9_onward _ hi0 hq162) mk_X9_onward lk_1519 ⟨Nat.le_trans (by decide) hR.1, Nat.le_trans (by decide) hR.2⟩ ⟨Nat.zero_le _, Nat.zero_le _⟩ rfl hl.1 rfl rfl (Nat.le_of_ble_eq_true rfl) dX9_look_75 (fun hP H locs hw => ?_)
    cases h
    exact r_iret hC hw dX9_look_78
  have h := i_no c158 h
  by_cases c165 : r156 = 2
  · have h := i_yes c165 h
    refine lv_tableIn (off := 74) (tgt := 79) hx hb dX9_look_5 (by rw [c165]; decide) (by rw [c165]; decide) (by rw [c165] <;> rfl) (by decide) ?_
    refine lv_aload_n hx hb dX9_look_79 rfl (lv_at hl 0 rfl) ?_
    refine lv_iload_n hx hb dX9_look_80 rfl (lv_at hl 1 rfl) ?_
    obtain ⟨r167, D168, hq166, h⟩ := cq_i h
    refine r_cV (st' := [.int r167]) [.int x1] [] hC hw kc_8 hi0 (k_X9_lookJump _ hi0 hq166) mk_X9_lookJump lk_1527 ⟨Nat.le_trans (by decide) hR.1, Nat.le_trans (by decide) hR.2⟩ ⟨Nat.zero_le _, Nat.zero_le _⟩ rfl hl.1 rfl rfl (Nat.le_of_ble_eq_true rfl) dX9_look_81 (fun hP H locs hw => ?_)
    cases h
    exact r_iret hC hw dX9_look_84
  have h := i_no c165 h
  by_cases c169 : r156 = 3
  · have h := i_yes c169 h
    refine lv_tableIn (off := 80) (tgt := 85) hx hb dX9_look_5 (by rw [c169]; decide) (by rw [c169]; decide) (by rw [c169] <;> rfl) (by decide) ?_
    refine lv_aload_n hx hb dX9_look_85 rfl (lv_at hl 0 rfl) ?_
    refine lv_iconst (v := 0) hx hb dX9_look_86 (by decide) ?_
    refine lv_iload_n hx hb dX9_look_87 rfl (lv_at hl 1 rfl) ?_
    refine lv_iconst (v := 1) hx hb dX9_look_88 (by decide) ?_
    refine lv_iadd hx hb dX9_look_89 ?_
    refine lv_aload_n hx hb dX9_look_90 rfl (lv_at hl 0 rfl) ?_
    obtain ⟨o170, ho173, h⟩ := rq_i h
    refine r_getR hC hw kc_8 hi0 1 rfl lk_1073 dX9_look_91 rfl ho173 (fun a171 hi172 => ?_)
    refine lv_iload_n hx hb dX9_look_94 rfl (lv_at hl 1 rfl) ?_
    obtain ⟨hn174, h⟩ := ix_i h
    refine r_iald hC hw hi172 hn174 dX9_look_95 ?_
    refine lv_bipush (v := 7) hx hb dX9_look_96 (by decide) ?_
    refine lv_iand hx hb dX9_look_98 ?_
    refine lv_iconst (v := 5) hx hb dX9_look_99 (by decide) ?_
    refine lv_icmp_ne (tgt := 112) hx hb dX9_look_100 (by decide) (fun c175 => ?_) (fun c175 => ?_)
    · have h := i_no c175 h
      refine lv_aload_n hx hb dX9_look_112 rfl (lv_at hl 0 rfl) ?_
      obtain ⟨o176, ho179, h⟩ := rq_i h
      refine r_getR hC hw kc_8 hi0 5 rfl lk_1077 dX9_look_113 rfl ho179 (fun a177 hi178 => ?_)
      refine lv_iload_n hx hb dX9_look_116 rfl (lv_at hl 1 rfl) ?_
      obtain ⟨hn180, h⟩ := ix_i h
      refine r_iald hC hw hi178 hn180 dX9_look_117 ?_
      exact w_X9_look_118 hC hR o0 a0 (0 : Int32) (x1 + (1 : Int32)) (gI D o176 x1.toNatClampNeg) _ _ _ _ hi0 hw (lv_sub hl [] rfl) h
    · have h := i_yes c175 h
      refine lv_aload_n hx hb dX9_look_103 rfl (lv_at hl 0 rfl) ?_
      obtain ⟨o181, ho184, h⟩ := rq_i h
      refine r_getR hC hw kc_8 hi0 4 rfl lk_1076 dX9_look_104 rfl ho184 (fun a182 hi183 => ?_)
      refine lv_iload_n hx hb dX9_look_107 rfl (lv_at hl 1 rfl) ?_
      obtain ⟨hn185, h⟩ := ix_i h
      refine r_iald hC hw hi183 hn185 dX9_look_108 ?_
      refine lv_goto (tgt := 118) hx hb dX9_look_109 (by decide) ?_
      exact w_X9_look_118 hC hR o0 a0 (0 : Int32) (x1 + (1 : Int32)) (gI D o181 x1.toNatClampNeg) _ _ _ _ hi0 hw (lv_sub hl [] rfl) h
  have h := i_no c169 h
  by_cases c186 : r156 = 4
  · have h := i_yes c186 h
    refine lv_tableIn (off := 118) (tgt := 123) hx hb dX9_look_5 (by rw [c186]; decide) (by rw [c186]; decide) (by rw [c186] <;> rfl) (by decide) ?_
    refine lv_aload_n hx hb dX9_look_123 rfl (lv_at hl 0 rfl) ?_
    obtain ⟨o187, ho190, h⟩ := rq_i h
    refine r_getR hC hw kc_8 hi0 40 rfl lk_1112 dX9_look_124 rfl ho190 (fun a188 hi189 => ?_)
    refine lv_iconst (v := 0) hx hb dX9_look_127 (by decide) ?_
    obtain ⟨hn191, h⟩ := ix_i h
    refine r_iald hC hw hi189 hn191 dX9_look_128 ?_
    refine lv_iconst (v := 1) hx hb dX9_look_129 (by decide) ?_
    refine lv_icmp_ne (tgt := 137) hx hb dX9_look_130 (by decide) (fun c192 => ?_) (fun c192 => ?_)
    · have h := i_no c192 h
      refine lv_iconst (v := 5) hx hb dX9_look_137 (by decide) ?_
      cases h
      exact r_iret hC hw dX9_look_138
    · have h := i_yes c192 h
      refine lv_iconst (v := 0) hx hb dX9_look_133 (by decide) ?_
      refine lv_goto (tgt := 138) hx hb dX9_look_134 (by decide) ?_
      cases h
      exact r_iret hC hw dX9_look_138
  have h := i_no c186 h
  by_cases c193 : r156 = 5
  · have h := i_yes c193 h
    refine lv_tableIn (off := 134) (tgt := 139) hx hb dX9_look_5 (by rw [c193]; decide) (by rw [c193]; decide) (by rw [c193] <;> rfl) (by decide) ?_
    refine lv_aload_n hx hb dX9_look_139 rfl (lv_at hl 0 rfl) ?_
    refine lv_aload_n hx hb dX9_look_140 rfl (lv_at hl 0 rfl) ?_
    refine lv_iload_n hx hb dX9_look_141 rfl (lv_at hl 1 rfl) ?_
    refine lv_aload_n hx hb dX9_look_142 rfl (lv_at hl 0 rfl) ?_
    obtain ⟨o194, ho197, h⟩ := rq_i h
    refine r_getR hC hw kc_8 hi0 5 rfl lk_1077 dX9_look_143 rfl ho197 (fun a195 hi196 => ?_)
    refine lv_iload_n hx hb dX9_look_146 rfl (lv_at hl 1 rfl) ?_
    obtain ⟨hn198, h⟩ := ix_i h
    refine r_iald hC hw hi196 hn198 dX9_look_147 ?_
    obtain ⟨r200, D201, hq199, h⟩ := cq_i h
    refine r_cV (st' := [.int r200, .ref a0]) [.int x1, .int (gI D o194 x1.toNatClampNeg)] [.ref a0] hC hw kc_8 hi0 (k_X9_lookCall _ hi0 hq199) mk_X9_lookCall lk_1553 ⟨Nat.le_trans (by decide) hR.1, Nat.le_trans (by decide) hR.2⟩ ⟨Nat.zero_le _, Nat.zero_le _⟩ rfl hl.1 rfl rfl (Nat.le_of_ble_eq_true rfl) dX9_look_148 (fun hP H locs hw => ?_)
    refine lv_iload_n hx hb dX9_look_151 rfl (lv_at hl 1 rfl) ?_
    refine lv_iconst (v := 1) hx hb dX9_look_152 (by decide) ?_
    refine lv_iadd hx hb dX9_look_153 ?_
    obtain ⟨r203, D204, hq202, h⟩ := cq_i h
    refine r_cV (st' := [.int r203]) [.int r200, .int (x1 + (1 : Int32))] [] hC hw kc_8 hi0 (k_X9_onward _ hi0 hq202) mk_X9_onward lk_1519 ⟨Nat.le_trans (by decide) hR.1, Nat.le_trans (by decide) hR.2⟩ ⟨Nat.zero_le _, Nat.zero_le _⟩ rfl hl.1 rfl rfl (Nat.le_of_ble_eq_true rfl) dX9_look_154 (fun hP H locs hw => ?_)
    cases h
    exact r_iret hC hw dX9_look_157
  have h := i_no c193 h
  by_cases c205 : r156 = 6
  · have h := i_yes c205 h
    refine lv_tableIn (off := 153) (tgt := 158) hx hb dX9_look_5 (by rw [c205]; decide) (by rw [c205]; decide) (by rw [c205] <;> rfl) (by decide) ?_
    refine lv_aload_n hx hb dX9_look_158 rfl (lv_at hl 0 rfl) ?_
    refine lv_aload_n hx hb dX9_look_159 rfl (lv_at hl 0 rfl) ?_
    refine lv_iload_n hx hb dX9_look_160 rfl (lv_at hl 1 rfl) ?_
    refine lv_iconst (v := 0) hx hb dX9_look_161 (by decide) ?_
    obtain ⟨r207, D208, hq206, h⟩ := cq_i h
    refine r_cV (st' := [.int r207, .ref a0]) [.int x1, .int (0 : Int32)] [.ref a0] hC hw kc_8 hi0 (k_X9_lookLoad _ hi0 hq206) mk_X9_lookLoad lk_1570 ⟨Nat.le_trans (by decide) hR.1, Nat.le_trans (by decide) hR.2⟩ ⟨Nat.zero_le _, Nat.zero_le _⟩ rfl hl.1 rfl rfl (Nat.le_of_ble_eq_true rfl) dX9_look_162 (fun hP H locs hw => ?_)
    refine lv_iload_n hx hb dX9_look_165 rfl (lv_at hl 1 rfl) ?_
    refine lv_iconst (v := 1) hx hb dX9_look_166 (by decide) ?_
    refine lv_iadd hx hb dX9_look_167 ?_
    obtain ⟨r210, D211, hq209, h⟩ := cq_i h
    refine r_cV (st' := [.int r210]) [.int r207, .int (x1 + (1 : Int32))] [] hC hw kc_8 hi0 (k_X9_onward _ hi0 hq209) mk_X9_onward lk_1519 ⟨Nat.le_trans (by decide) hR.1, Nat.le_trans (by decide) hR.2⟩ ⟨Nat.zero_le _, Nat.zero_le _⟩ rfl hl.1 rfl rfl (Nat.le_of_ble_eq_true rfl) dX9_look_168 (fun hP H locs hw => ?_)
    cases h
    exact r_iret hC hw dX9_look_171
  have h := i_no c205 h
  by_cases c212 : r156 = 7
  · have h := i_yes c212 h
    refine lv_tableIn (off := 167) (tgt := 172) hx hb dX9_look_5 (by rw [c212]; decide) (by rw [c212]; decide) (by rw [c212] <;> rfl) (by decide) ?_
    refine lv_aload_n hx hb dX9_look_172 rfl (lv_at hl 0 rfl) ?_
    refine lv_aload_n hx hb dX9_look_173 rfl (lv_at hl 0 rfl) ?_
    refine lv_iload_n hx hb dX9_look_174 rfl (lv_at hl 1 rfl) ?_
    refine lv_iconst (v := 1) hx hb dX9_look_175 (by decide) ?_
    obtain ⟨r214, D215, hq213, h⟩ := cq_i h
    refine r_cV (st' := [.int r214, .ref a0]) [.int x1, .int (1 : Int32)] [.ref a0] hC hw kc_8 hi0 (k_X9_lookLoad _ hi0 hq213) mk_X9_lookLoad lk_1570 ⟨Nat.le_trans (by decide) hR.1, Nat.le_trans (by decide) hR.2⟩ ⟨Nat.zero_le _, Nat.zero_le _⟩ rfl hl.1 rfl rfl (Nat.le_of_ble_eq_true rfl) dX9_look_176 (fun hP H locs hw => ?_)
    refine lv_iload_n hx hb dX9_look_179 rfl (lv_at hl 1 rfl) ?_
    refine lv_iconst (v := 1) hx hb dX9_look_180 (by decide) ?_
    refine lv_iadd hx hb dX9_look_181 ?_
    obtain ⟨r217, D218, hq216, h⟩ := cq_i h
    refine r_cV (st' := [.int r217]) [.int r214, .int (x1 + (1 : Int32))] [] hC hw kc_8 hi0 (k_X9_onward _ hi0 hq216) mk_X9_onward lk_1519 ⟨Nat.le_trans (by decide) hR.1, Nat.le_trans (by decide) hR.2⟩ ⟨Nat.zero_le _, Nat.zero_le _⟩ rfl hl.1 rfl rfl (Nat.le_of_ble_eq_true rfl) dX9_look_182 (fun hP H locs hw => ?_)
    cases h
    exact r_iret hC hw dX9_look_185
  have h := i_no c212 h
  by_cases c219 : r156 = 8
  · have h := i_yes c219 h
    refine lv_tableIn (off := 181) (tgt := 186) hx hb dX9_look_5 (by rw [c219]; decide) (by rw [c219]; decide) (by rw [c219] <;> rfl) (by decide) ?_
    refine lv_aload_n hx hb dX9_look_186 rfl (lv_at hl 0 rfl) ?_
    refine lv_aload_n hx hb dX9_look_187 rfl (lv_at hl 0 rfl) ?_
    obtain ⟨o220, ho223, h⟩ := rq_i h
    refine r_getR hC hw kc_8 hi0 40 rfl lk_1112 dX9_look_188 rfl ho223 (fun a221 hi222 => ?_)
    refine lv_aload_n hx hb dX9_look_191 rfl (lv_at hl 0 rfl) ?_
    obtain ⟨o224, ho227, h⟩ := rq_i h
    refine r_getR hC hw kc_8 hi0 2 rfl lk_1074 dX9_look_192 rfl ho227 (fun a225 hi226 => ?_)
    refine lv_iload_n hx hb dX9_look_195 rfl (lv_at hl 1 rfl) ?_
    obtain ⟨hn228, h⟩ := ix_i h
    refine r_iald hC hw hi226 hn228 dX9_look_196 ?_
    obtain ⟨hn229, h⟩ := ix_i h
    refine r_iald hC hw hi222 hn229 dX9_look_197 ?_
    refine lv_if_ne (tgt := 205) hx hb dX9_look_198 (by decide) (fun c230 => ?_) (fun c230 => ?_)
    · have h := i_no c230 h
      refine lv_aload_n hx hb dX9_look_205 rfl (lv_at hl 0 rfl) ?_
      refine lv_iload_n hx hb dX9_look_206 rfl (lv_at hl 1 rfl) ?_
      refine lv_aload_n hx hb dX9_look_207 rfl (lv_at hl 0 rfl) ?_
      refine lv_iload_n hx hb dX9_look_208 rfl (lv_at hl 1 rfl) ?_
      obtain ⟨r232, hq231, h⟩ := pq_i h
      refine r_cV (st' := [.int r232, .int x1, .ref a0, .ref a0]) [.int x1] [.int x1, .ref a0, .ref a0] hC hw kc_8 hi0 (k_X9_widthOf _ hi0 hq231) mk_X9_widthOf lk_1308 ⟨Nat.le_trans (by decide) hR.1, Nat.le_trans (by decide) hR.2⟩ ⟨Nat.zero_le _, Nat.zero_le _⟩ rfl hl.1 rfl rfl (Nat.le_of_ble_eq_true rfl) dX9_look_209 (fun hP H locs hw => ?_)
      refine lv_iconst (v := (-1)) hx hb dX9_look_212 (by decide) ?_
      obtain ⟨r234, D235, hq233, h⟩ := cq_i h
      refine r_cV (st' := [.int r234, .ref a0]) [.int x1, .int r232, .int (-1 : Int32)] [.ref a0] hC hw kc_8 hi0 (k_X9_lookPut _ hi0 hq233) mk_X9_lookPut lk_1577 ⟨Nat.le_trans (by decide) hR.1, Nat.le_trans (by decide) hR.2⟩ ⟨Nat.zero_le _, Nat.zero_le _⟩ rfl hl.1 rfl rfl (Nat.le_of_ble_eq_true rfl) dX9_look_213 (fun hP H locs hw => ?_)
      exact w_X9_look_216 hC hR x1 o0 a0 r234 _ _ _ _ hi0 hw (lv_sub hl [1] rfl) h
    · have h := i_yes c230 h
      refine lv_iconst (v := 2) hx hb dX9_look_201 (by decide) ?_
      refine lv_goto (tgt := 216) hx hb dX9_look_202 (by decide) ?_
      exact w_X9_look_216 hC hR x1 o0 a0 (2 : Int32) _ _ _ _ hi0 hw (lv_sub hl [1] rfl) h
  have h := i_no c219 h
  by_cases c236 : r156 = 9
  · have h := i_yes c236 h
    refine lv_tableIn (off := 218) (tgt := 223) hx hb dX9_look_5 (by rw [c236]; decide) (by rw [c236]; decide) (by rw [c236] <;> rfl) (by decide) ?_
    refine lv_aload_n hx hb dX9_look_223 rfl (lv_at hl 0 rfl) ?_
    refine lv_aload_n hx hb dX9_look_224 rfl (lv_at hl 0 rfl) ?_
    obtain ⟨o237, ho240, h⟩ := rq_i h
    refine r_getR hC hw kc_8 hi0 40 rfl lk_1112 dX9_look_225 rfl ho240 (fun a238 hi239 => ?_)
    refine lv_aload_n hx hb dX9_look_228 rfl (lv_at hl 0 rfl) ?_
    obtain ⟨o241, ho244, h⟩ := rq_i h
    refine r_getR hC hw kc_8 hi0 2 rfl lk_1074 dX9_look_229 rfl ho244 (fun a242 hi243 => ?_)
    refine lv_iload_n hx hb dX9_look_232 rfl (lv_at hl 1 rfl) ?_
    obtain ⟨hn245, h⟩ := ix_i h
    refine r_iald hC hw hi243 hn245 dX9_look_233 ?_
    obtain ⟨hn246, h⟩ := ix_i h
    refine r_iald hC hw hi239 hn246 dX9_look_234 ?_
    refine lv_if_eq (tgt := 252) hx hb dX9_look_235 (by decide) (fun c247 => ?_) (fun c247 => ?_)
    · have h := i_yes c247 h
      exact w_X9_look_252 hC hR x1 o0 a0 _ _ _ _ hi0 hw (lv_sub hl [1] rfl) h
    · have h := i_no c247 h
      refine lv_aload_n hx hb dX9_look_238 rfl (lv_at hl 0 rfl) ?_
      obtain ⟨o248, ho251, h⟩ := rq_i h
      refine r_getR hC hw kc_8 hi0 40 rfl lk_1112 dX9_look_239 rfl ho251 (fun a249 hi250 => ?_)
      refine lv_aload_n hx hb dX9_look_242 rfl (lv_at hl 0 rfl) ?_
      obtain ⟨o252, ho255, h⟩ := rq_i h
      refine r_getR hC hw kc_8 hi0 3 rfl lk_1075 dX9_look_243 rfl ho255 (fun a253 hi254 => ?_)
      refine lv_iload_n hx hb dX9_look_246 rfl (lv_at hl 1 rfl) ?_
      obtain ⟨hn256, h⟩ := ix_i h
      refine r_iald hC hw hi254 hn256 dX9_look_247 ?_
      obtain ⟨hn257, h⟩ := ix_i h
      refine r_iald hC hw hi250 hn257 dX9_look_248 ?_
      refine lv_if_ne (tgt := 256) hx hb dX9_look_249 (by decide) (fun c258 => ?_) (fun c258 => ?_)
      · have h := i_no c258 h
        refine lv_aload_n hx hb dX9_look_256 rfl (lv_at hl 0 rfl) ?_
        refine lv_iload_n hx hb dX9_look_257 rfl (lv_at hl 1 rfl) ?_
        refine lv_aload_n hx hb dX9_look_258 rfl (lv_at hl 0 rfl) ?_
        refine lv_iload_n hx hb dX9_look_259 rfl (lv_at hl 1 rfl) ?_
        obtain ⟨r260, hq259, h⟩ := pq_i h
        refine r_cV (st' := [.int r260, .int x1, .ref a0, .ref a0]) [.int x1] [.int x1, .ref a0, .ref a0] hC hw kc_8 hi0 (k_X9_widthOf _ hi0 hq259) mk_X9_widthOf lk_1308 ⟨Nat.le_trans (by decide) hR.1, Nat.le_trans (by decide) hR.2⟩ ⟨Nat.zero_le _, Nat.zero_le _⟩ rfl hl.1 rfl rfl (Nat.le_of_ble_eq_true rfl) dX9_look_260 (fun hP H locs hw => ?_)
        refine lv_aload_n hx hb dX9_look_263 rfl (lv_at hl 0 rfl) ?_
        obtain ⟨o261, ho264, h⟩ := rq_i h
        refine r_getR hC hw kc_8 hi0 3 rfl lk_1075 dX9_look_264 rfl ho264 (fun a262 hi263 => ?_)
        refine lv_iload_n hx hb dX9_look_267 rfl (lv_at hl 1 rfl) ?_
        obtain ⟨hn265, h⟩ := ix_i h
        refine r_iald hC hw hi263 hn265 dX9_look_268 ?_
        obtain ⟨r267, D268, hq266, h⟩ := cq_i h
        refine r_cV (st' := [.int r267, .ref a0]) [.int x1, .int r260, .int (gI D o261 x1.toNatClampNeg)] [.ref a0] hC hw kc_8 hi0 (k_X9_lookPut _ hi0 hq266) mk_X9_lookPut lk_1577 ⟨Nat.le_trans (by decide) hR.1, Nat.le_trans (by decide) hR.2⟩ ⟨Nat.zero_le _, Nat.zero_le _⟩ rfl hl.1 rfl rfl (Nat.le_of_ble_eq_true rfl) dX9_look_269 (fun hP H locs hw => ?_)
        exact w_X9_look_272 hC hR x1 o0 a0 r267 _ _ _ _ hi0 hw (lv_sub hl [1] rfl) h
      · have h := i_yes c258 h
        exact w_X9_look_252 hC hR x1 o0 a0 _ _ _ _ hi0 hw (lv_sub hl [1] rfl) h
  have h := i_no c236 h
  by_cases c269 : r156 = 10
  · have h := i_yes c269 h
    refine lv_tableIn (off := 274) (tgt := 279) hx hb dX9_look_5 (by rw [c269]; decide) (by rw [c269]; decide) (by rw [c269] <;> rfl) (by decide) ?_
    refine lv_aload_n hx hb dX9_look_279 rfl (lv_at hl 0 rfl) ?_
    refine lv_aload_n hx hb dX9_look_280 rfl (lv_at hl 0 rfl) ?_
    refine lv_iload_n hx hb dX9_look_281 rfl (lv_at hl 1 rfl) ?_
    refine lv_aload_n hx hb dX9_look_282 rfl (lv_at hl 0 rfl) ?_
    obtain ⟨o270, ho273, h⟩ := rq_i h
    refine r_getR hC hw kc_8 hi0 1 rfl lk_1073 dX9_look_283 rfl ho273 (fun a271 hi272 => ?_)
    refine lv_iload_n hx hb dX9_look_286 rfl (lv_at hl 1 rfl) ?_
    obtain ⟨hn274, h⟩ := ix_i h
    refine r_iald hC hw hi272 hn274 dX9_look_287 ?_
    refine lv_sipush (v := 219) hx hb dX9_look_288 (by decide) ?_
    refine lv_icmp_ne (tgt := 299) hx hb dX9_look_291 (by decide) (fun c275 => ?_) (fun c275 => ?_)
    · have h := i_no c275 h
      refine lv_iconst (v := 4) hx hb dX9_look_299 (by decide) ?_
      exact w_X9_look_300 hC hR x1 o0 a0 o0 a0 x1 (4 : Int32) _ _ _ _ hi0 hi0 hw (lv_sub hl [1] rfl) h
    · have h := i_yes c275 h
      refine lv_bipush (v := 8) hx hb dX9_look_294 (by decide) ?_
      refine lv_goto (tgt := 300) hx hb dX9_look_296 (by decide) ?_
      exact w_X9_look_300 hC hR x1 o0 a0 o0 a0 x1 (8 : Int32) _ _ _ _ hi0 hi0 hw (lv_sub hl [1] rfl) h
  have h := i_no c269 h
  refine lv_tableOut (tgt := 310) hx hb dX9_look_5 (by have nc157 := lv_neT c157 (a := 0) rfl; have nc158 := lv_neT c158 (a := 1) rfl; have nc165 := lv_neT c165 (a := 2) rfl; have nc169 := lv_neT c169 (a := 3) rfl; have nc186 := lv_neT c186 (a := 4) rfl; have nc193 := lv_neT c193 (a := 5) rfl; have nc205 := lv_neT c205 (a := 6) rfl; have nc212 := lv_neT c212 (a := 7) rfl; have nc219 := lv_neT c219 (a := 8) rfl; have nc236 := lv_neT c236 (a := 9) rfl; have nc269 := lv_neT c269 (a := 10) rfl; omega) (by decide) ?_
  refine lv_aload_n hx hb dX9_look_310 rfl (lv_at hl 0 rfl) ?_
  refine lv_iload_n hx hb dX9_look_311 rfl (lv_at hl 1 rfl) ?_
  obtain ⟨r277, D278, hq276, h⟩ := cq_i h
  refine r_cV (st' := [.int r277]) [.int x1] [] hC hw kc_8 hi0 (k_X9_lookWide _ hi0 hq276) mk_X9_lookWide lk_1591 ⟨Nat.le_trans (by decide) hR.1, Nat.le_trans (by decide) hR.2⟩ ⟨Nat.zero_le _, Nat.zero_le _⟩ rfl hl.1 rfl rfl (Nat.le_of_ble_eq_true rfl) dX9_look_312 (fun hP H locs hw => ?_)
  cases h
  exact r_iret hC hw dX9_look_315
set_option maxHeartbeats 4000000 in
set_option maxRecDepth 100000 in
theorem k_X9_look {l : Launch} {G : va_G} {cA : Nat → ClassId} {S : sh} {D D' : dt} {ad : Nat → Nat} (sz : Nat) {o0 a0 : Nat} {x1 : Int32} {r : Int32} (hi0 : Is S ad o0 a0 8) (h : f_X9_look S o0 x1 D = some (r, D')) : Co l yX9_look (Cond.code yX9_look cX9_look 2 (some .int) :: tb0) 7 207 [.ref a0, .int x1] G cA S D ad sz (some (.int r)) True D' := by
  refine Met.ofW (cc := cX9_look) (maxL := 2) (ret := (some .int)) (by decide) rfl ?_
  intro p e s m args below meth c s₁ B hml hv
  obtain ⟨rfl, hsz, hP, hK, hD0, hT, hX⟩ := hv
  subst hsz
  have hts := atoms_spec (ws := Cond.code yX9_look cX9_look 2 (some .int) :: tb0) B.pre
  have hC : Cx RX9 cX9_look 2 (some .int) p s m _ meth c := ⟨B.exec, B.bytes, hml, findClass_of_methodNamed B.named, fun w q => hts w (List.mem_cons_of_mem _ q), B.returns, B.notSynchronized⟩
  have hw := Wd.entry hP hK hD0 hT hX
  have hl := lv_entry ([.ref a0, .int x1]) (n := 2) (Nat.le_of_ble_eq_true rfl)
  rw [lg_entry_eq]
  exact w_X9_look_0 hC ⟨Nat.le_refl _, Nat.le_refl _⟩ o0 a0 x1 D _ _ _ hi0 hw hl h
set_option maxHeartbeats 4000000 in
set_option maxRecDepth 100000 in
theorem w_X9_judge_205 {r : Int32} {D' : dt} (hC : Cx RX9 cX9_judge 3 (some .int) p s m args meth c) (hR : 8 ≤ R.frames ∧ 228 ≤ R.locals) {k161 : Nat → Int32 → dt → Option (Int32 × dt)} (hk161 : ∀ (o0 a0 : Nat) (x1 : Int32) (D : dt) (H : Heap) (locs : List Loc) (ls : Array Slot), Is S ad o0 a0 8 → Wd G cA S D ad A s H locs → lv_has ls 3 [(0, .ref a0), (1, .int x1)] → k161 o0 x1 D = some (r, D') → W p l e R s m args below meth c H locs 0 0 (MQ below (Qn (some (.int r)) True (wpost G cA S D' ad A) A) args s 0 0 A) (F0 m 161 ls [])) : ∀ (o0 a0 : Nat) (x1 : Int32) (D : dt) (H : Heap) (locs : List Loc) (ls : Array Slot), Is S ad o0 a0 8 → Wd G cA S D ad A s H locs → lv_has ls 3 [(0, .ref a0), (1, .int x1)] → f_X9_judge_205 S k161 o0 x1 D = some (r, D') → W p l e R s m args below meth c H locs 0 0 (MQ below (Qn (some (.int r)) True (wpost G cA S D' ad A) A) args s 0 0 A) (F0 m 205 ls []) := by
  obtain ⟨hx, hb, -⟩ := id hC
  intro o0 a0 x1 D H locs ls hi0 hw hl h
  unfold f_X9_judge_205 at h
  obtain ⟨y85, ey85⟩ : ∃ z : Int32, z = x1 + 1 := ⟨_, rfl⟩
  have h := nm_i h y85 ey85
  refine lv_iinc (v := y85) (lv' := [(1, .int y85), (0, .ref a0)]) hx hb dX9_judge_205 hl (k := 1) rfl (by rw [ey85]; rfl) (by decide) rfl (fun ls hl => ?_)
  refine lv_goto (tgt := 161) hx hb dX9_judge_208 (by decide) ?_
  exact hk161 o0 a0 y85 _ _ _ _ hi0 hw (lv_sub hl [1, 0] rfl) h
set_option maxHeartbeats 4000000 in
set_option maxRecDepth 100000 in
theorem w_X9_judge_161 {r : Int32} {D' : dt} (hC : Cx RX9 cX9_judge 3 (some .int) p s m args meth c) (hR : 8 ≤ R.frames ∧ 228 ≤ R.locals) : ∀ (n : Nat), ∀ (o0 a0 : Nat) (x1 : Int32) (D : dt) (H : Heap) (locs : List Loc) (ls : Array Slot), Is S ad o0 a0 8 → Wd G cA S D ad A s H locs → lv_has ls 3 [(0, .ref a0), (1, .int x1)] → f_X9_judge_161 S n o0 x1 D = some (r, D') → W p l e R s m args below meth c H locs 0 0 (MQ below (Qn (some (.int r)) True (wpost G cA S D' ad A) A) args s 0 0 A) (F0 m 161 ls []) := by
  obtain ⟨hx, hb, -⟩ := id hC
  intro n
  induction n with
  | zero =>
    intro o0 a0 x1 D H locs ls hi0 hw hl h
    rw [f_X9_judge_161.eq_1] at h
    cases h
  | succ n ih =>
    intro o0 a0 x1 D H locs ls hi0 hw hl h
    rw [f_X9_judge_161.eq_2] at h
    refine lv_iload_n hx hb dX9_judge_161 rfl (lv_at hl 1 rfl) ?_
    refine lv_aload_n hx hb dX9_judge_162 rfl (lv_at hl 0 rfl) ?_
    refine r_gI hC hw kc_8 hi0 0 rfl lk_1072 dX9_judge_163 ?_
    refine lv_icmp_ge (tgt := 211) hx hb dX9_judge_166 (by decide) (fun c86 => ?_) (fun c86 => ?_)
    · have h := i_yes c86 h
      refine lv_iconst (v := 0) hx hb dX9_judge_211 (by decide) ?_
      cases h
      exact r_iret hC hw dX9_judge_212
    · have h := i_no c86 h
      refine lv_aload_n hx hb dX9_judge_169 rfl (lv_at hl 0 rfl) ?_
      obtain ⟨o87, ho90, h⟩ := rq_i h
      refine r_getR hC hw kc_8 hi0 27 rfl lk_1099 dX9_judge_170 rfl ho90 (fun a88 hi89 => ?_)
      refine lv_iload_n hx hb dX9_judge_173 rfl (lv_at hl 1 rfl) ?_
      obtain ⟨hn91, h⟩ := ix_i h
      refine r_zald hC hw hi89 hn91 dX9_judge_174 ?_
      refine lv_if_eq (tgt := 205) hx hb dX9_judge_175 (by decide) (fun c92 => ?_) (fun c92 => ?_)
      · have h := i_yes c92 h
        exact w_X9_judge_205 hC hR ih o0 a0 x1 _ _ _ _ hi0 hw (lv_sub hl [0, 1] rfl) h
      · have h := i_no c92 h
        refine lv_aload_n hx hb dX9_judge_178 rfl (lv_at hl 0 rfl) ?_
        refine lv_iload_n hx hb dX9_judge_179 rfl (lv_at hl 1 rfl) ?_
        refine r_pI hC hw kc_8 hi0 46 rfl lk_1118 rfl rfl rfl dX9_judge_180 (fun D93 eD93 H locs hw => ?_)
        have h := nm_i h D93 eD93
        refine lv_aload_n hx hb dX9_judge_183 rfl (lv_at hl 0 rfl) ?_
        refine lv_iload_n hx hb dX9_judge_184 rfl (lv_at hl 1 rfl) ?_
        obtain ⟨_, D95, hq94, h⟩ := cq_i h
        refine r_cV (st' := []) [.int x1] [] hC hw kc_8 hi0 (k_X9_take _ hi0 hq94) mk_X9_take lk_1472 ⟨Nat.le_trans (by decide) hR.1, Nat.le_trans (by decide) hR.2⟩ ⟨Nat.zero_le _, Nat.zero_le _⟩ rfl hl.1 rfl rfl (Nat.le_of_ble_eq_true rfl) dX9_judge_185 (fun hP H locs hw => ?_)
        refine lv_aload_n hx hb dX9_judge_188 rfl (lv_at hl 0 rfl) ?_
        refine lv_iload_n hx hb dX9_judge_189 rfl (lv_at hl 1 rfl) ?_
        obtain ⟨r97, D98, hq96, h⟩ := cq_i h
        refine r_cV (st' := [.int r97]) [.int x1] [] hC hw kc_8 hi0 (k_X9_look _ hi0 hq96) mk_X9_look lk_1476 ⟨Nat.le_trans (by decide) hR.1, Nat.le_trans (by decide) hR.2⟩ ⟨Nat.zero_le _, Nat.zero_le _⟩ rfl hl.1 rfl rfl (Nat.le_of_ble_eq_true rfl) dX9_judge_190 (fun hP H locs hw => ?_)
        refine lv_istore_n (lv' := [(2, .int r97), (0, .ref a0), (1, .int x1)]) hx hb dX9_judge_193 rfl hl (by decide) rfl (fun ls hl => ?_)
        refine lv_iload_n hx hb dX9_judge_194 rfl (lv_at hl 0 rfl) ?_
        refine lv_if_le (tgt := 205) hx hb dX9_judge_195 (by decide) (fun c99 => ?_) (fun c99 => ?_)
        · have h := i_yes c99 h
          exact w_X9_judge_205 hC hR ih o0 a0 x1 _ _ _ _ hi0 hw (lv_sub hl [1, 2] rfl) h
        · have h := i_no c99 h
          refine lv_aload_n hx hb dX9_judge_198 rfl (lv_at hl 1 rfl) ?_
          refine lv_iload_n hx hb dX9_judge_199 rfl (lv_at hl 2 rfl) ?_
          refine r_pI hC hw kc_8 hi0 26 rfl lk_1098 rfl rfl rfl dX9_judge_200 (fun D100 eD100 H locs hw => ?_)
          have h := nm_i h D100 eD100
          refine lv_iload_n hx hb dX9_judge_203 rfl (lv_at hl 0 rfl) ?_
          cases h
          exact r_iret hC hw dX9_judge_204
set_option maxHeartbeats 4000000 in
set_option maxRecDepth 100000 in
theorem w_X9_judge_119 {r : Int32} {D' : dt} (hC : Cx RX9 cX9_judge 3 (some .int) p s m args meth c) (hR : 8 ≤ R.frames ∧ 228 ≤ R.locals) : ∀ (n : Nat), ∀ (o0 a0 : Nat) (x1 : Int32) (D : dt) (H : Heap) (locs : List Loc) (ls : Array Slot), Is S ad o0 a0 8 → Wd G cA S D ad A s H locs → lv_has ls 3 [(0, .ref a0), (1, .int x1)] → f_X9_judge_119 S n o0 x1 D = some (r, D') → W p l e R s m args below meth c H locs 0 0 (MQ below (Qn (some (.int r)) True (wpost G cA S D' ad A) A) args s 0 0 A) (F0 m 119 ls []) := by
  obtain ⟨hx, hb, -⟩ := id hC
  intro n
  induction n with
  | zero =>
    intro o0 a0 x1 D H locs ls hi0 hw hl h
    rw [f_X9_judge_119.eq_1] at h
    cases h
  | succ n ih =>
    intro o0 a0 x1 D H locs ls hi0 hw hl h
    rw [f_X9_judge_119.eq_2] at h
    refine lv_iload_n hx hb dX9_judge_119 rfl (lv_at hl 1 rfl) ?_
    refine lv_sipush (v := 512) hx hb dX9_judge_120 (by decide) ?_
    refine lv_icmp_ge (tgt := 139) hx hb dX9_judge_123 (by decide) (fun c101 => ?_) (fun c101 => ?_)
    · have h := i_yes c101 h
      refine lv_aload_n hx hb dX9_judge_139 rfl (lv_at hl 0 rfl) ?_
      obtain ⟨o102, ho105, h⟩ := rq_i h
      refine r_getR hC hw kc_8 hi0 40 rfl lk_1112 dX9_judge_140 rfl ho105 (fun a103 hi104 => ?_)
      refine lv_iconst (v := 1) hx hb dX9_judge_143 (by decide) ?_
      refine lv_iconst (v := 2) hx hb dX9_judge_144 (by decide) ?_
      obtain ⟨hn106, h⟩ := ix_i h
      refine r_ias hC hw hi104 hn106 dX9_judge_145 (fun D107 eD107 H locs hw => ?_)
      have h := nm_i h D107 eD107
      refine lv_aload_n hx hb dX9_judge_146 rfl (lv_at hl 0 rfl) ?_
      obtain ⟨o108, ho111, h⟩ := rq_i h
      refine r_getR hC hw kc_8 hi0 40 rfl lk_1112 dX9_judge_147 rfl ho111 (fun a109 hi110 => ?_)
      refine lv_bipush (v := 10) hx hb dX9_judge_150 (by decide) ?_
      refine lv_iconst (v := 3) hx hb dX9_judge_152 (by decide) ?_
      obtain ⟨hn112, h⟩ := ix_i h
      refine r_ias hC hw hi110 hn112 dX9_judge_153 (fun D113 eD113 H locs hw => ?_)
      have h := nm_i h D113 eD113
      refine lv_aload_n hx hb dX9_judge_154 rfl (lv_at hl 0 rfl) ?_
      refine lv_iconst (v := 0) hx hb dX9_judge_155 (by decide) ?_
      obtain ⟨_, D115, hq114, h⟩ := cq_i h
      refine r_cV (st' := []) [.int (0 : Int32)] [] hC hw kc_8 hi0 (k_X9_goTo _ hi0 hq114) mk_X9_goTo lk_1458 ⟨Nat.le_trans (by decide) hR.1, Nat.le_trans (by decide) hR.2⟩ ⟨Nat.zero_le _, Nat.zero_le _⟩ rfl hl.1 rfl rfl (Nat.le_of_ble_eq_true rfl) dX9_judge_156 (fun hP H locs hw => ?_)
      refine lv_iconst (v := 0) hx hb dX9_judge_159 (by decide) ?_
      refine lv_topi (fun y116 ey116 => ?_)
      have h := nm_i h y116 ey116
      refine lv_istore_n (lv' := [(1, .int y116), (0, .ref a0)]) hx hb dX9_judge_160 rfl hl (by decide) rfl (fun ls hl => ?_)
      exact w_X9_judge_161 hC hR LF o0 a0 y116 _ _ _ _ hi0 hw (lv_sub hl [1, 0] rfl) h
    · have h := i_no c101 h
      refine lv_aload_n hx hb dX9_judge_126 rfl (lv_at hl 0 rfl) ?_
      obtain ⟨o117, ho120, h⟩ := rq_i h
      refine r_getR hC hw kc_8 hi0 45 rfl lk_1117 dX9_judge_127 rfl ho120 (fun a118 hi119 => ?_)
      refine lv_iload_n hx hb dX9_judge_130 rfl (lv_at hl 1 rfl) ?_
      refine lv_iconst (v := 0) hx hb dX9_judge_131 (by decide) ?_
      obtain ⟨hn121, h⟩ := ix_i h
      refine r_zas hC hw hi119 hn121 dX9_judge_132 (fun D122 eD122 H locs hw => ?_)
      have h := nm_i h D122 eD122
      obtain ⟨y123, ey123⟩ : ∃ z : Int32, z = x1 + 1 := ⟨_, rfl⟩
      have h := nm_i h y123 ey123
      refine lv_iinc (v := y123) (lv' := [(1, .int y123), (0, .ref a0)]) hx hb dX9_judge_133 hl (k := 1) rfl (by rw [ey123]; rfl) (by decide) rfl (fun ls hl => ?_)
      refine lv_goto (tgt := 119) hx hb dX9_judge_136 (by decide) ?_
      exact ih o0 a0 y123 _ _ _ _ hi0 hw (lv_sub hl [1, 0] rfl) h
set_option maxHeartbeats 4000000 in
set_option maxRecDepth 100000 in
theorem w_X9_judge_100 {r : Int32} {D' : dt} (hC : Cx RX9 cX9_judge 3 (some .int) p s m args meth c) (hR : 8 ≤ R.frames ∧ 228 ≤ R.locals) : ∀ (n : Nat), ∀ (o0 a0 : Nat) (x1 : Int32) (D : dt) (H : Heap) (locs : List Loc) (ls : Array Slot), Is S ad o0 a0 8 → Wd G cA S D ad A s H locs → lv_has ls 3 [(0, .ref a0), (1, .int x1)] → f_X9_judge_100 S n o0 x1 D = some (r, D') → W p l e R s m args below meth c H locs 0 0 (MQ below (Qn (some (.int r)) True (wpost G cA S D' ad A) A) args s 0 0 A) (F0 m 100 ls []) := by
  obtain ⟨hx, hb, -⟩ := id hC
  intro n
  induction n with
  | zero =>
    intro o0 a0 x1 D H locs ls hi0 hw hl h
    rw [f_X9_judge_100.eq_1] at h
    cases h
  | succ n ih =>
    intro o0 a0 x1 D H locs ls hi0 hw hl h
    rw [f_X9_judge_100.eq_2] at h
    refine lv_iload_n hx hb dX9_judge_100 rfl (lv_at hl 1 rfl) ?_
    refine lv_bipush (v := 75) hx hb dX9_judge_101 (by decide) ?_
    refine lv_icmp_ge (tgt := 117) hx hb dX9_judge_103 (by decide) (fun c124 => ?_) (fun c124 => ?_)
    · have h := i_yes c124 h
      refine lv_iconst (v := 0) hx hb dX9_judge_117 (by decide) ?_
      refine lv_topi (fun y125 ey125 => ?_)
      have h := nm_i h y125 ey125
      refine lv_istore_n (lv' := [(1, .int y125), (0, .ref a0)]) hx hb dX9_judge_118 rfl hl (by decide) rfl (fun ls hl => ?_)
      exact w_X9_judge_119 hC hR LF o0 a0 y125 _ _ _ _ hi0 hw (lv_sub hl [1, 0] rfl) h
    · have h := i_no c124 h
      refine lv_aload_n hx hb dX9_judge_106 rfl (lv_at hl 0 rfl) ?_
      refine lv_iload_n hx hb dX9_judge_107 rfl (lv_at hl 1 rfl) ?_
      obtain ⟨_, D127, hq126, h⟩ := cq_i h
      refine r_cV (st' := []) [.int x1] [] hC hw kc_8 hi0 (k_X9_forget _ hi0 hq126) mk_X9_forget lk_1454 ⟨Nat.le_trans (by decide) hR.1, Nat.le_trans (by decide) hR.2⟩ ⟨Nat.zero_le _, Nat.zero_le _⟩ rfl hl.1 rfl rfl (Nat.le_of_ble_eq_true rfl) dX9_judge_108 (fun hP H locs hw => ?_)
      obtain ⟨y128, ey128⟩ : ∃ z : Int32, z = x1 + 1 := ⟨_, rfl⟩
      have h := nm_i h y128 ey128
      refine lv_iinc (v := y128) (lv' := [(1, .int y128), (0, .ref a0)]) hx hb dX9_judge_111 hl (k := 1) rfl (by rw [ey128]; rfl) (by decide) rfl (fun ls hl => ?_)
      refine lv_goto (tgt := 100) hx hb dX9_judge_114 (by decide) ?_
      exact ih o0 a0 y128 _ _ _ _ hi0 hw (lv_sub hl [1, 0] rfl) h
set_option maxHeartbeats 4000000 in
set_option maxRecDepth 100000 in
theorem w_X9_judge_91 {r : Int32} {D' : dt} (hC : Cx RX9 cX9_judge 3 (some .int) p s m args meth c) (hR : 8 ≤ R.frames ∧ 228 ≤ R.locals) {k51 : Nat → Int32 → dt → Option (Int32 × dt)} (hk51 : ∀ (o0 a0 : Nat) (x1 : Int32) (D : dt) (H : Heap) (locs : List Loc) (ls : Array Slot), Is S ad o0 a0 8 → Wd G cA S D ad A s H locs → lv_has ls 3 [(0, .ref a0), (1, .int x1)] → k51 o0 x1 D = some (r, D') → W p l e R s m args below meth c H locs 0 0 (MQ below (Qn (some (.int r)) True (wpost G cA S D' ad A) A) args s 0 0 A) (F0 m 51 ls [])) : ∀ (o0 a0 : Nat) (x1 : Int32) (os0 as0 : Nat) (xs1 : Int32) (xs2 : Int32) (D : dt) (H : Heap) (locs : List Loc) (ls : Array Slot), Is S ad o0 a0 8 → Is S ad os0 as0 103 → Wd G cA S D ad A s H locs → lv_has ls 3 [(0, .ref a0), (1, .int x1)] → f_X9_judge_91 S k51 o0 x1 os0 xs1 xs2 D = some (r, D') → W p l e R s m args below meth c H locs 0 0 (MQ below (Qn (some (.int r)) True (wpost G cA S D' ad A) A) args s 0 0 A) (F0 m 91 ls [.int xs2, .int xs1, .ref as0]) := by
  obtain ⟨hx, hb, -⟩ := id hC
  intro o0 a0 x1 os0 as0 xs1 xs2 D H locs ls hi0 his0 hw hl h
  unfold f_X9_judge_91 at h
  obtain ⟨hn129, h⟩ := ix_i h
  refine r_zas hC hw his0 hn129 dX9_judge_91 (fun D130 eD130 H locs hw => ?_)
  have h := nm_i h D130 eD130
  obtain ⟨y131, ey131⟩ : ∃ z : Int32, z = x1 + 1 := ⟨_, rfl⟩
  have h := nm_i h y131 ey131
  refine lv_iinc (v := y131) (lv' := [(1, .int y131), (0, .ref a0)]) hx hb dX9_judge_92 hl (k := 1) rfl (by rw [ey131]; rfl) (by decide) rfl (fun ls hl => ?_)
  refine lv_goto (tgt := 51) hx hb dX9_judge_95 (by decide) ?_
  exact hk51 o0 a0 y131 _ _ _ _ hi0 hw (lv_sub hl [1, 0] rfl) h
set_option maxHeartbeats 4000000 in
set_option maxRecDepth 100000 in
theorem w_X9_judge_90 {r : Int32} {D' : dt} (hC : Cx RX9 cX9_judge 3 (some .int) p s m args meth c) (hR : 8 ≤ R.frames ∧ 228 ≤ R.locals) {k51 : Nat → Int32 → dt → Option (Int32 × dt)} (hk51 : ∀ (o0 a0 : Nat) (x1 : Int32) (D : dt) (H : Heap) (locs : List Loc) (ls : Array Slot), Is S ad o0 a0 8 → Wd G cA S D ad A s H locs → lv_has ls 3 [(0, .ref a0), (1, .int x1)] → k51 o0 x1 D = some (r, D') → W p l e R s m args below meth c H locs 0 0 (MQ below (Qn (some (.int r)) True (wpost G cA S D' ad A) A) args s 0 0 A) (F0 m 51 ls [])) : ∀ (o0 a0 : Nat) (x1 : Int32) (os0 as0 : Nat) (xs1 : Int32) (D : dt) (H : Heap) (locs : List Loc) (ls : Array Slot), Is S ad o0 a0 8 → Is S ad os0 as0 103 → Wd G cA S D ad A s H locs → lv_has ls 3 [(0, .ref a0), (1, .int x1)] → f_X9_judge_90 S k51 o0 x1 os0 xs1 D = some (r, D') → W p l e R s m args below meth c H locs 0 0 (MQ below (Qn (some (.int r)) True (wpost G cA S D' ad A) A) args s 0 0 A) (F0 m 90 ls [.int xs1, .ref as0]) := by
  obtain ⟨hx, hb, -⟩ := id hC
  intro o0 a0 x1 os0 as0 xs1 D H locs ls hi0 his0 hw hl h
  unfold f_X9_judge_90 at h
  refine lv_iconst (v := 0) hx hb dX9_judge_90 (by decide) ?_
  exact w_X9_judge_91 hC hR hk51 o0 a0 x1 os0 as0 xs1 (0 : Int32) _ _ _ _ hi0 his0 hw (lv_sub hl [0, 1] rfl) h
set_option maxHeartbeats 4000000 in
set_option maxRecDepth 100000 in
theorem w_X9_judge_51 {r : Int32} {D' : dt} (hC : Cx RX9 cX9_judge 3 (some .int) p s m args meth c) (hR : 8 ≤ R.frames ∧ 228 ≤ R.locals) : ∀ (n : Nat), ∀ (o0 a0 : Nat) (x1 : Int32) (D : dt) (H : Heap) (locs : List Loc) (ls : Array Slot), Is S ad o0 a0 8 → Wd G cA S D ad A s H locs → lv_has ls 3 [(0, .ref a0), (1, .int x1)] → f_X9_judge_51 S n o0 x1 D = some (r, D') → W p l e R s m args below meth c H locs 0 0 (MQ below (Qn (some (.int r)) True (wpost G cA S D' ad A) A) args s 0 0 A) (F0 m 51 ls []) := by
  obtain ⟨hx, hb, -⟩ := id hC
  intro n
  induction n with
  | zero =>
    intro o0 a0 x1 D H locs ls hi0 hw hl h
    rw [f_X9_judge_51.eq_1] at h
    cases h
  | succ n ih =>
    intro o0 a0 x1 D H locs ls hi0 hw hl h
    rw [f_X9_judge_51.eq_2] at h
    refine lv_iload_n hx hb dX9_judge_51 rfl (lv_at hl 1 rfl) ?_
    refine lv_aload_n hx hb dX9_judge_52 rfl (lv_at hl 0 rfl) ?_
    refine r_gI hC hw kc_8 hi0 0 rfl lk_1072 dX9_judge_53 ?_
    refine lv_icmp_ge (tgt := 98) hx hb dX9_judge_56 (by decide) (fun c132 => ?_) (fun c132 => ?_)
    · have h := i_yes c132 h
      refine lv_iconst (v := 0) hx hb dX9_judge_98 (by decide) ?_
      refine lv_topi (fun y133 ey133 => ?_)
      have h := nm_i h y133 ey133
      refine lv_istore_n (lv' := [(1, .int y133), (0, .ref a0)]) hx hb dX9_judge_99 rfl hl (by decide) rfl (fun ls hl => ?_)
      exact w_X9_judge_100 hC hR LF o0 a0 y133 _ _ _ _ hi0 hw (lv_sub hl [1, 0] rfl) h
    · have h := i_no c132 h
      refine lv_aload_n hx hb dX9_judge_59 rfl (lv_at hl 0 rfl) ?_
      obtain ⟨o134, ho137, h⟩ := rq_i h
      refine r_getR hC hw kc_8 hi0 28 rfl lk_1100 dX9_judge_60 rfl ho137 (fun a135 hi136 => ?_)
      refine lv_iload_n hx hb dX9_judge_63 rfl (lv_at hl 1 rfl) ?_
      refine lv_iconst (v := 1) hx hb dX9_judge_64 (by decide) ?_
      refine lv_iadd hx hb dX9_judge_65 ?_
      refine lv_aload_n hx hb dX9_judge_66 rfl (lv_at hl 0 rfl) ?_
      obtain ⟨o138, ho141, h⟩ := rq_i h
      refine r_getR hC hw kc_8 hi0 1 rfl lk_1073 dX9_judge_67 rfl ho141 (fun a139 hi140 => ?_)
      refine lv_iload_n hx hb dX9_judge_70 rfl (lv_at hl 1 rfl) ?_
      obtain ⟨hn142, h⟩ := ix_i h
      refine r_iald hC hw hi140 hn142 dX9_judge_71 ?_
      refine lv_bipush (v := 24) hx hb dX9_judge_72 (by decide) ?_
      refine lv_icmp_ne (tgt := 90) hx hb dX9_judge_74 (by decide) (fun c143 => ?_) (fun c143 => ?_)
      · have h := i_no c143 h
        exact w_X9_judge_90 hC hR ih o0 a0 x1 o134 a135 (x1 + (1 : Int32)) _ _ _ _ hi0 hi136 hw (lv_sub hl [0, 1] rfl) h
      · have h := i_yes c143 h
        refine lv_aload_n hx hb dX9_judge_77 rfl (lv_at hl 0 rfl) ?_
        obtain ⟨o144, ho147, h⟩ := rq_i h
        refine r_getR hC hw kc_8 hi0 28 rfl lk_1100 dX9_judge_78 rfl ho147 (fun a145 hi146 => ?_)
        refine lv_iload_n hx hb dX9_judge_81 rfl (lv_at hl 1 rfl) ?_
        obtain ⟨hn148, h⟩ := ix_i h
        refine r_zald hC hw hi146 hn148 dX9_judge_82 ?_
        refine lv_if_ne (tgt := 90) hx hb dX9_judge_83 (by decide) (fun c149 => ?_) (fun c149 => ?_)
        · have h := i_no c149 h
          exact w_X9_judge_90 hC hR ih o0 a0 x1 o134 a135 (x1 + (1 : Int32)) _ _ _ _ hi0 hi136 hw (lv_sub hl [0, 1] rfl) h
        · have h := i_yes c149 h
          refine lv_iconst (v := 1) hx hb dX9_judge_86 (by decide) ?_
          refine lv_goto (tgt := 91) hx hb dX9_judge_87 (by decide) ?_
          exact w_X9_judge_91 hC hR ih o0 a0 x1 o134 a135 (x1 + (1 : Int32)) (1 : Int32) _ _ _ _ hi0 hi136 hw (lv_sub hl [0, 1] rfl) h
set_option maxHeartbeats 4000000 in
set_option maxRecDepth 100000 in
theorem w_X9_judge_7 {r : Int32} {D' : dt} (hC : Cx RX9 cX9_judge 3 (some .int) p s m args meth c) (hR : 8 ≤ R.frames ∧ 228 ≤ R.locals) : ∀ (n : Nat), ∀ (o0 a0 : Nat) (x1 : Int32) (D : dt) (H : Heap) (locs : List Loc) (ls : Array Slot), Is S ad o0 a0 8 → Wd G cA S D ad A s H locs → lv_has ls 3 [(0, .ref a0), (1, .int x1)] → f_X9_judge_7 S n o0 x1 D = some (r, D') → W p l e R s m args below meth c H locs 0 0 (MQ below (Qn (some (.int r)) True (wpost G cA S D' ad A) A) args s 0 0 A) (F0 m 7 ls []) := by
  obtain ⟨hx, hb, -⟩ := id hC
  intro n
  induction n with
  | zero =>
    intro o0 a0 x1 D H locs ls hi0 hw hl h
    rw [f_X9_judge_7.eq_1] at h
    cases h
  | succ n ih =>
    intro o0 a0 x1 D H locs ls hi0 hw hl h
    rw [f_X9_judge_7.eq_2] at h
    refine lv_iload_n hx hb dX9_judge_7 rfl (lv_at hl 1 rfl) ?_
    refine lv_sipush (v := 200) hx hb dX9_judge_8 (by decide) ?_
    refine lv_icmp_ge (tgt := 34) hx hb dX9_judge_11 (by decide) (fun c150 => ?_) (fun c150 => ?_)
    · have h := i_yes c150 h
      refine lv_aload_n hx hb dX9_judge_34 rfl (lv_at hl 0 rfl) ?_
      refine r_gI hC hw kc_8 hi0 0 rfl lk_1072 dX9_judge_35 ?_
      refine lv_if_ne (tgt := 49) hx hb dX9_judge_38 (by decide) (fun c151 => ?_) (fun c151 => ?_)
      · have h := i_no c151 h
        refine lv_iconst (v := 0) hx hb dX9_judge_49 (by decide) ?_
        refine lv_topi (fun y152 ey152 => ?_)
        have h := nm_i h y152 ey152
        refine lv_istore_n (lv' := [(1, .int y152), (0, .ref a0)]) hx hb dX9_judge_50 rfl hl (by decide) rfl (fun ls hl => ?_)
        exact w_X9_judge_51 hC hR LF o0 a0 y152 _ _ _ _ hi0 hw (lv_sub hl [1, 0] rfl) h
      · have h := i_yes c151 h
        refine lv_aload_n hx hb dX9_judge_41 rfl (lv_at hl 0 rfl) ?_
        refine lv_iconst (v := 0) hx hb dX9_judge_42 (by decide) ?_
        refine r_pI hC hw kc_8 hi0 26 rfl lk_1098 rfl rfl rfl dX9_judge_43 (fun D153 eD153 H locs hw => ?_)
        have h := nm_i h D153 eD153
        refine lv_bipush (v := 6) hx hb dX9_judge_46 (by decide) ?_
        cases h
        exact r_iret hC hw dX9_judge_48
    · have h := i_no c150 h
      refine lv_aload_n hx hb dX9_judge_14 rfl (lv_at hl 0 rfl) ?_
      obtain ⟨o154, ho157, h⟩ := rq_i h
      refine r_getR hC hw kc_8 hi0 27 rfl lk_1099 dX9_judge_15 rfl ho157 (fun a155 hi156 => ?_)
      refine lv_iload_n hx hb dX9_judge_18 rfl (lv_at hl 1 rfl) ?_
      refine lv_iconst (v := 0) hx hb dX9_judge_19 (by decide) ?_
      obtain ⟨hn158, h⟩ := ix_i h
      refine r_zas hC hw hi156 hn158 dX9_judge_20 (fun D159 eD159 H locs hw => ?_)
      have h := nm_i h D159 eD159
      refine lv_aload_n hx hb dX9_judge_21 rfl (lv_at hl 0 rfl) ?_
      obtain ⟨o160, ho163, h⟩ := rq_i h
      refine r_getR hC hw kc_8 hi0 28 rfl lk_1100 dX9_judge_22 rfl ho163 (fun a161 hi162 => ?_)
      refine lv_iload_n hx hb dX9_judge_25 rfl (lv_at hl 1 rfl) ?_
      refine lv_iconst (v := 0) hx hb dX9_judge_26 (by decide) ?_
      obtain ⟨hn164, h⟩ := ix_i h
      refine r_zas hC hw hi162 hn164 dX9_judge_27 (fun D165 eD165 H locs hw => ?_)
      have h := nm_i h D165 eD165
      obtain ⟨y166, ey166⟩ : ∃ z : Int32, z = x1 + 1 := ⟨_, rfl⟩
      have h := nm_i h y166 ey166
      refine lv_iinc (v := y166) (lv' := [(1, .int y166), (0, .ref a0)]) hx hb dX9_judge_28 hl (k := 1) rfl (by rw [ey166]; rfl) (by decide) rfl (fun ls hl => ?_)
      refine lv_goto (tgt := 7) hx hb dX9_judge_31 (by decide) ?_
      exact ih o0 a0 y166 _ _ _ _ hi0 hw (lv_sub hl [1, 0] rfl) h
set_option maxHeartbeats 4000000 in
set_option maxRecDepth 100000 in
theorem w_X9_judge_0 {r : Int32} {D' : dt} (hC : Cx RX9 cX9_judge 3 (some .int) p s m args meth c) (hR : 8 ≤ R.frames ∧ 228 ≤ R.locals) : ∀ (o0 a0 : Nat) (D : dt) (H : Heap) (locs : List Loc) (ls : Array Slot), Is S ad o0 a0 8 → Wd G cA S D ad A s H locs → lv_has ls 3 [(0, .ref a0)] → f_X9_judge S o0 D = some (r, D') → W p l e R s m args below meth c H locs 0 0 (MQ below (Qn (some (.int r)) True (wpost G cA S D' ad A) A) args s 0 0 A) (F0 m 0 ls []) := by
  obtain ⟨hx, hb, -⟩ := id hC
  intro o0 a0 D H locs ls hi0 hw hl h
  unfold f_X9_judge at h
  refine lv_aload_n hx hb dX9_judge_0 rfl (lv_at hl 0 rfl) ?_
  refine lv_iconst (v := (-1)) hx hb dX9_judge_1 (by decide) ?_
  refine r_pI hC hw kc_8 hi0 26 rfl lk_1098 rfl rfl rfl dX9_judge_2 (fun D167 eD167 H locs hw => ?_)
  have h := nm_i h D167 eD167
  refine lv_iconst (v := 0) hx hb dX9_judge_5 (by decide) ?_
  refine lv_topi (fun y168 ey168 => ?_)
  have h := nm_i h y168 ey168
  refine lv_istore_n (lv' := [(1, .int y168), (0, .ref a0)]) hx hb dX9_judge_6 rfl hl (by decide) rfl (fun ls hl => ?_)
  exact w_X9_judge_7 hC hR LF o0 a0 y168 _ _ _ _ hi0 hw (lv_sub hl [1, 0] rfl) h
set_option maxHeartbeats 4000000 in
set_option maxRecDepth 100000 in
theorem k_X9_judge {l : Launch} {G : va_G} {cA : Nat → ClassId} {S : sh} {D D' : dt} {ad : Nat → Nat} (sz : Nat) {o0 a0 : Nat} {r : Int32} (hi0 : Is S ad o0 a0 8) (h : f_X9_judge S o0 D = some (r, D')) : Co l yX9_judge (Cond.code yX9_judge cX9_judge 3 (some .int) :: tb0) 8 228 [.ref a0] G cA S D ad sz (some (.int r)) True D' := by
  refine Met.ofW (cc := cX9_judge) (maxL := 3) (ret := (some .int)) (by decide) rfl ?_
  intro p e s m args below meth c s₁ B hml hv
  obtain ⟨rfl, hsz, hP, hK, hD0, hT, hX⟩ := hv
  subst hsz
  have hts := atoms_spec (ws := Cond.code yX9_judge cX9_judge 3 (some .int) :: tb0) B.pre
  have hC : Cx RX9 cX9_judge 3 (some .int) p s m _ meth c := ⟨B.exec, B.bytes, hml, findClass_of_methodNamed B.named, fun w q => hts w (List.mem_cons_of_mem _ q), B.returns, B.notSynchronized⟩
  have hw := Wd.entry hP hK hD0 hT hX
  have hl := lv_entry ([.ref a0]) (n := 3) (Nat.le_of_ble_eq_true rfl)
  rw [lg_entry_eq]
  exact w_X9_judge_0 hC ⟨Nat.le_refl _, Nat.le_refl _⟩ o0 a0 D _ _ _ hi0 hw hl h
set_option maxHeartbeats 4000000 in
set_option maxRecDepth 100000 in
theorem w_X9_place_0 {r : Int32} (hC : Cx RX9 cX9_place 1 (some .int) p s m args meth c) (hR : 0 ≤ R.frames ∧ 0 ≤ R.locals) : ∀ (o0 a0 : Nat) (H : Heap) (locs : List Loc) (ls : Array Slot), Is S ad o0 a0 8 → Wd G cA S D ad A s H locs → lv_has ls 1 [(0, .ref a0)] → f_X9_place S D o0 = some r → W p l e R s m args below meth c H locs 0 0 (MQ below (Qn (some (.int r)) True (wpost G cA S D ad A) A) args s 0 0 A) (F0 m 0 ls []) := by
  obtain ⟨hx, hb, -⟩ := id hC
  intro o0 a0 H locs ls hi0 hw hl h
  unfold f_X9_place at h
  refine lv_aload_n hx hb dX9_place_0 rfl (lv_at hl 0 rfl) ?_
  refine r_gI hC hw kc_8 hi0 26 rfl lk_1098 dX9_place_1 ?_
  cases h
  exact r_iret hC hw dX9_place_4
set_option maxHeartbeats 4000000 in
set_option maxRecDepth 100000 in
theorem k_X9_place {l : Launch} {G : va_G} {cA : Nat → ClassId} {S : sh} {D : dt} {ad : Nat → Nat} (sz : Nat) {o0 a0 : Nat} {r : Int32} (hi0 : Is S ad o0 a0 8) (h : f_X9_place S D o0 = some r) : Co l yX9_place (Cond.code yX9_place cX9_place 1 (some .int) :: tb0) 0 0 [.ref a0] G cA S D ad sz (some (.int r)) True D := by
  refine Met.ofW (cc := cX9_place) (maxL := 1) (ret := (some .int)) (by decide) rfl ?_
  intro p e s m args below meth c s₁ B hml hv
  obtain ⟨rfl, hsz, hP, hK, hD0, hT, hX⟩ := hv
  subst hsz
  have hts := atoms_spec (ws := Cond.code yX9_place cX9_place 1 (some .int) :: tb0) B.pre
  have hC : Cx RX9 cX9_place 1 (some .int) p s m _ meth c := ⟨B.exec, B.bytes, hml, findClass_of_methodNamed B.named, fun w q => hts w (List.mem_cons_of_mem _ q), B.returns, B.notSynchronized⟩
  have hw := Wd.entry hP hK hD0 hT hX
  have hl := lv_entry ([.ref a0]) (n := 1) (Nat.le_of_ble_eq_true rfl)
  rw [lg_entry_eq]
  exact w_X9_place_0 hC ⟨Nat.le_refl _, Nat.le_refl _⟩ o0 a0 _ _ _ hi0 hw hl h
set_option maxHeartbeats 4000000 in
set_option maxRecDepth 100000 in
theorem w_X9_may_28 {r : Int64} (hC : Cx RX9 cX9_may 5 (some .long) p s m args meth c) (hR : 1 ≤ R.frames ∧ 25 ≤ R.locals) : ∀  (H : Heap) (locs : List Loc) (ls : Array Slot), Wd G cA S D ad A s H locs → lv_has ls 5 [] → f_X9_may_28 S D = some r → W p l e R s m args below meth c H locs 0 0 (MQ below (Qn (some (.long r)) True (wpost G cA S D ad A) A) args s 0 0 A) (F0 m 28 ls []) := by
  obtain ⟨hx, hb, -⟩ := id hC
  intro H locs ls  hw hl h
  unfold f_X9_may_28 at h
  refine lv_ldc2 (v := (-1)) hx hb hC.2.2.2.1 (hC.2.2.2.2.1 _ lk_1365) dX9_may_28 ?_
  cases h
  exact r_lret hC hw dX9_may_31
set_option maxHeartbeats 4000000 in
set_option maxRecDepth 100000 in
theorem w_X9_may_0 {r : Int64} (hC : Cx RX9 cX9_may 5 (some .long) p s m args meth c) (hR : 1 ≤ R.frames ∧ 25 ≤ R.locals) : ∀ (o0 a0 : Nat) (x1 : Int32) (x2 : Int32) (x3 : Int32) (H : Heap) (locs : List Loc) (ls : Array Slot), Is S ad o0 a0 8 → Wd G cA S D ad A s H locs → lv_has ls 5 [(0, .ref a0), (1, .int x1), (2, .int x2), (3, .int x3)] → f_X9_may S D o0 x1 x2 x3 = some r → W p l e R s m args below meth c H locs 0 0 (MQ below (Qn (some (.long r)) True (wpost G cA S D ad A) A) args s 0 0 A) (F0 m 0 ls []) := by
  obtain ⟨hx, hb, -⟩ := id hC
  intro o0 a0 x1 x2 x3 H locs ls hi0 hw hl h
  unfold f_X9_may at h
  refine lv_iload_n hx hb dX9_may_0 rfl (lv_at hl 1 rfl) ?_
  refine lv_i2l (v := x1.toInt64) hx hb dX9_may_1 rfl ?_
  refine lv_lconst (v := 0) hx hb dX9_may_2 (by decide) ?_
  refine lv_aload_n hx hb dX9_may_3 rfl (lv_at hl 0 rfl) ?_
  refine r_gI hC hw kc_8 hi0 0 rfl lk_1072 dX9_may_4 ?_
  refine lv_iconst (v := 1) hx hb dX9_may_7 (by decide) ?_
  refine lv_isub hx hb dX9_may_8 ?_
  refine lv_i2l (v := ((gI D o0 0) - (1 : Int32)).toInt64) hx hb dX9_may_9 rfl ?_
  obtain ⟨r47, hq46, h⟩ := pq_i h
  refine r_cS (st' := [.int r47]) [.long x1.toInt64, .long (0 : Int64), .long (((gI D o0 0) - (1 : Int32)).toInt64)] [] hC hw (k_X9_in _ hq46) mk_X9_in lk_1243 ⟨Nat.le_trans (by decide) hR.1, Nat.le_trans (by decide) hR.2⟩ ⟨Nat.zero_le _, Nat.zero_le _⟩ rfl hl.1 rfl rfl (Nat.le_of_ble_eq_true rfl) dX9_may_10 (fun hP H locs hw => ?_)
  refine lv_if_eq (tgt := 28) hx hb dX9_may_13 (by decide) (fun c48 => ?_) (fun c48 => ?_)
  · have h := i_yes c48 h
    exact w_X9_may_28 hC hR _ _ _ hw (lv_sub hl [] rfl) h
  · have h := i_no c48 h
    refine lv_iload_n hx hb dX9_may_16 rfl (lv_at hl 2 rfl) ?_
    refine lv_i2l (v := x2.toInt64) hx hb dX9_may_17 rfl ?_
    refine lv_lconst (v := 0) hx hb dX9_may_18 (by decide) ?_
    refine lv_ldc2 (v := 10) hx hb hC.2.2.2.1 (hC.2.2.2.2.1 _ lk_1445) dX9_may_19 ?_
    obtain ⟨r50, hq49, h⟩ := pq_i h
    refine r_cS (st' := [.int r50]) [.long x2.toInt64, .long (0 : Int64), .long (10 : Int64)] [] hC hw (k_X9_in _ hq49) mk_X9_in lk_1243 ⟨Nat.le_trans (by decide) hR.1, Nat.le_trans (by decide) hR.2⟩ ⟨Nat.zero_le _, Nat.zero_le _⟩ rfl hl.1 rfl rfl (Nat.le_of_ble_eq_true rfl) dX9_may_22 (fun hP H locs hw => ?_)
    refine lv_if_ne (tgt := 32) hx hb dX9_may_25 (by decide) (fun c51 => ?_) (fun c51 => ?_)
    · have h := i_no c51 h
      refine lv_iload_n hx hb dX9_may_32 rfl (lv_at hl 3 rfl) ?_
      refine lv_i2l (v := x3.toInt64) hx hb dX9_may_33 rfl ?_
      refine lv_lconst (v := 0) hx hb dX9_may_34 (by decide) ?_
      refine lv_ldc2 (v := 4) hx hb hC.2.2.2.1 (hC.2.2.2.2.1 _ lk_1603) dX9_may_35 ?_
      obtain ⟨r53, hq52, h⟩ := pq_i h
      refine r_cS (st' := [.int r53]) [.long x3.toInt64, .long (0 : Int64), .long (4 : Int64)] [] hC hw (k_X9_in _ hq52) mk_X9_in lk_1243 ⟨Nat.le_trans (by decide) hR.1, Nat.le_trans (by decide) hR.2⟩ ⟨Nat.zero_le _, Nat.zero_le _⟩ rfl hl.1 rfl rfl (Nat.le_of_ble_eq_true rfl) dX9_may_38 (fun hP H locs hw => ?_)
      refine lv_if_ne (tgt := 48) hx hb dX9_may_41 (by decide) (fun c54 => ?_) (fun c54 => ?_)
      · have h := i_no c54 h
        refine lv_bipush (v := 11) hx hb dX9_may_48 (by decide) ?_
        refine lv_iload_n hx hb dX9_may_50 rfl (lv_at hl 1 rfl) ?_
        refine lv_imul hx hb dX9_may_51 ?_
        refine lv_iload_n hx hb dX9_may_52 rfl (lv_at hl 2 rfl) ?_
        refine lv_iadd hx hb dX9_may_53 ?_
        refine lv_topi (fun y55 ey55 => ?_)
        have h := nm_i h y55 ey55
        refine lv_istore (lv' := [(4, .int y55), (0, .ref a0), (1, .int x1), (2, .int x2), (3, .int x3)]) hx hb dX9_may_54 hl (by decide) rfl (fun ls hl => ?_)
        refine lv_aload_n hx hb dX9_may_56 rfl (lv_at hl 1 rfl) ?_
        obtain ⟨o56, ho59, h⟩ := rq_i h
        refine r_getR hC hw kc_8 hi0 27 rfl lk_1099 dX9_may_57 rfl ho59 (fun a57 hi58 => ?_)
        refine lv_iload_n hx hb dX9_may_60 rfl (lv_at hl 2 rfl) ?_
        obtain ⟨hn60, h⟩ := ix_i h
        refine r_zald hC hw hi58 hn60 dX9_may_61 ?_
        refine lv_if_ne (tgt := 67) hx hb dX9_may_62 (by decide) (fun c61 => ?_) (fun c61 => ?_)
        · have h := i_no c61 h
          refine lv_iload_n hx hb dX9_may_67 rfl (lv_at hl 4 rfl) ?_
          by_cases c62 : x3 = 0
          · have h := i_yes c62 h
            refine lv_tableIn (off := 32) (tgt := 100) hx hb dX9_may_68 (by rw [c62]; decide) (by rw [c62]; decide) (by rw [c62] <;> rfl) (by decide) ?_
            refine lv_aload_n hx hb dX9_may_100 rfl (lv_at hl 1 rfl) ?_
            obtain ⟨o63, ho66, h⟩ := rq_i h
            refine r_getR hC hw kc_8 hi0 29 rfl lk_1101 dX9_may_101 rfl ho66 (fun a64 hi65 => ?_)
            refine lv_iload hx hb dX9_may_104 (lv_at hl 0 rfl) ?_
            obtain ⟨hn67, h⟩ := ix_i h
            refine r_iald hC hw hi65 hn67 dX9_may_106 ?_
            refine lv_i2l (v := (gI D o63 y55.toNatClampNeg).toInt64) hx hb dX9_may_107 rfl ?_
            cases h
            exact r_lret hC hw dX9_may_108
          have h := i_no c62 h
          by_cases c68 : x3 = 1
          · have h := i_yes c68 h
            refine lv_tableIn (off := 41) (tgt := 109) hx hb dX9_may_68 (by rw [c68]; decide) (by rw [c68]; decide) (by rw [c68] <;> rfl) (by decide) ?_
            refine lv_aload_n hx hb dX9_may_109 rfl (lv_at hl 1 rfl) ?_
            obtain ⟨o69, ho72, h⟩ := rq_i h
            refine r_getR hC hw kc_8 hi0 30 rfl lk_1102 dX9_may_110 rfl ho72 (fun a70 hi71 => ?_)
            refine lv_iload hx hb dX9_may_113 (lv_at hl 0 rfl) ?_
            obtain ⟨hn73, h⟩ := ix_i h
            refine r_lald hC hw hi71 hn73 dX9_may_115 ?_
            cases h
            exact r_lret hC hw dX9_may_116
          have h := i_no c68 h
          by_cases c74 : x3 = 2
          · have h := i_yes c74 h
            refine lv_tableIn (off := 49) (tgt := 117) hx hb dX9_may_68 (by rw [c74]; decide) (by rw [c74]; decide) (by rw [c74] <;> rfl) (by decide) ?_
            refine lv_aload_n hx hb dX9_may_117 rfl (lv_at hl 1 rfl) ?_
            obtain ⟨o75, ho78, h⟩ := rq_i h
            refine r_getR hC hw kc_8 hi0 31 rfl lk_1103 dX9_may_118 rfl ho78 (fun a76 hi77 => ?_)
            refine lv_iload hx hb dX9_may_121 (lv_at hl 0 rfl) ?_
            obtain ⟨hn79, h⟩ := ix_i h
            refine r_lald hC hw hi77 hn79 dX9_may_123 ?_
            cases h
            exact r_lret hC hw dX9_may_124
          have h := i_no c74 h
          by_cases c80 : x3 = 3
          · have h := i_yes c80 h
            refine lv_tableIn (off := 57) (tgt := 125) hx hb dX9_may_68 (by rw [c80]; decide) (by rw [c80]; decide) (by rw [c80] <;> rfl) (by decide) ?_
            refine lv_aload_n hx hb dX9_may_125 rfl (lv_at hl 1 rfl) ?_
            obtain ⟨o81, ho84, h⟩ := rq_i h
            refine r_getR hC hw kc_8 hi0 32 rfl lk_1104 dX9_may_126 rfl ho84 (fun a82 hi83 => ?_)
            refine lv_iload hx hb dX9_may_129 (lv_at hl 0 rfl) ?_
            obtain ⟨hn85, h⟩ := ix_i h
            refine r_iald hC hw hi83 hn85 dX9_may_131 ?_
            refine lv_i2l (v := (gI D o81 y55.toNatClampNeg).toInt64) hx hb dX9_may_132 rfl ?_
            cases h
            exact r_lret hC hw dX9_may_133
          have h := i_no c80 h
          refine lv_tableOut (tgt := 134) hx hb dX9_may_68 (by have nc62 := lv_neT c62 (a := 0) rfl; have nc68 := lv_neT c68 (a := 1) rfl; have nc74 := lv_neT c74 (a := 2) rfl; have nc80 := lv_neT c80 (a := 3) rfl; omega) (by decide) ?_
          refine lv_aload_n hx hb dX9_may_134 rfl (lv_at hl 1 rfl) ?_
          obtain ⟨o86, ho89, h⟩ := rq_i h
          refine r_getR hC hw kc_8 hi0 33 rfl lk_1105 dX9_may_135 rfl ho89 (fun a87 hi88 => ?_)
          refine lv_iload hx hb dX9_may_138 (lv_at hl 0 rfl) ?_
          obtain ⟨hn90, h⟩ := ix_i h
          refine r_iald hC hw hi88 hn90 dX9_may_140 ?_
          refine lv_i2l (v := (gI D o86 y55.toNatClampNeg).toInt64) hx hb dX9_may_141 rfl ?_
          cases h
          exact r_lret hC hw dX9_may_142
        · have h := i_yes c61 h
          refine lv_lconst (v := 0) hx hb dX9_may_65 (by decide) ?_
          cases h
          exact r_lret hC hw dX9_may_66
      · have h := i_yes c54 h
        refine lv_ldc2 (v := (-2)) hx hb hC.2.2.2.1 (hC.2.2.2.2.1 _ lk_1436) dX9_may_44 ?_
        cases h
        exact r_lret hC hw dX9_may_47
    · have h := i_yes c51 h
      exact w_X9_may_28 hC hR _ _ _ hw (lv_sub hl [] rfl) h
set_option maxHeartbeats 4000000 in
set_option maxRecDepth 100000 in
theorem k_X9_may {l : Launch} {G : va_G} {cA : Nat → ClassId} {S : sh} {D : dt} {ad : Nat → Nat} (sz : Nat) {o0 a0 : Nat} {x1 : Int32} {x2 : Int32} {x3 : Int32} {r : Int64} (hi0 : Is S ad o0 a0 8) (h : f_X9_may S D o0 x1 x2 x3 = some r) : Co l yX9_may (Cond.code yX9_may cX9_may 5 (some .long) :: tb0) 1 25 [.ref a0, .int x1, .int x2, .int x3] G cA S D ad sz (some (.long r)) True D := by
  refine Met.ofW (cc := cX9_may) (maxL := 5) (ret := (some .long)) (by decide) rfl ?_
  intro p e s m args below meth c s₁ B hml hv
  obtain ⟨rfl, hsz, hP, hK, hD0, hT, hX⟩ := hv
  subst hsz
  have hts := atoms_spec (ws := Cond.code yX9_may cX9_may 5 (some .long) :: tb0) B.pre
  have hC : Cx RX9 cX9_may 5 (some .long) p s m _ meth c := ⟨B.exec, B.bytes, hml, findClass_of_methodNamed B.named, fun w q => hts w (List.mem_cons_of_mem _ q), B.returns, B.notSynchronized⟩
  have hw := Wd.entry hP hK hD0 hT hX
  have hl := lv_entry ([.ref a0, .int x1, .int x2, .int x3]) (n := 5) (Nat.le_of_ble_eq_true rfl)
  rw [lg_entry_eq]
  exact w_X9_may_0 hC ⟨Nat.le_refl _, Nat.le_refl _⟩ o0 a0 x1 x2 x3 _ _ _ hi0 hw hl h
set_option maxHeartbeats 4000000 in
set_option maxRecDepth 100000 in
theorem w_X9_cell_0 {r : Int32} (hC : Cx RX9 cX9_cell 4 (some .int) p s m args meth c) (hR : 1 ≤ R.frames ∧ 25 ≤ R.locals) : ∀ (o0 a0 : Nat) (x1 : Int32) (x2 : Int32) (H : Heap) (locs : List Loc) (ls : Array Slot), Is S ad o0 a0 8 → Wd G cA S D ad A s H locs → lv_has ls 4 [(0, .ref a0), (1, .int x1), (2, .int x2)] → f_X9_cell S D o0 x1 x2 = some r → W p l e R s m args below meth c H locs 0 0 (MQ below (Qn (some (.int r)) True (wpost G cA S D ad A) A) args s 0 0 A) (F0 m 0 ls []) := by
  obtain ⟨hx, hb, -⟩ := id hC
  intro o0 a0 x1 x2 H locs ls hi0 hw hl h
  unfold f_X9_cell at h
  refine lv_iload_n hx hb dX9_cell_0 rfl (lv_at hl 1 rfl) ?_
  refine lv_i2l (v := x1.toInt64) hx hb dX9_cell_1 rfl ?_
  refine lv_lconst (v := 0) hx hb dX9_cell_2 (by decide) ?_
  refine lv_aload_n hx hb dX9_cell_3 rfl (lv_at hl 0 rfl) ?_
  refine r_gI hC hw kc_8 hi0 0 rfl lk_1072 dX9_cell_4 ?_
  refine lv_iconst (v := 1) hx hb dX9_cell_7 (by decide) ?_
  refine lv_isub hx hb dX9_cell_8 ?_
  refine lv_i2l (v := ((gI D o0 0) - (1 : Int32)).toInt64) hx hb dX9_cell_9 rfl ?_
  obtain ⟨r28, hq27, h⟩ := pq_i h
  refine r_cS (st' := [.int r28]) [.long x1.toInt64, .long (0 : Int64), .long (((gI D o0 0) - (1 : Int32)).toInt64)] [] hC hw (k_X9_in _ hq27) mk_X9_in lk_1243 ⟨Nat.le_trans (by decide) hR.1, Nat.le_trans (by decide) hR.2⟩ ⟨Nat.zero_le _, Nat.zero_le _⟩ rfl hl.1 rfl rfl (Nat.le_of_ble_eq_true rfl) dX9_cell_10 (fun hP H locs hw => ?_)
  refine lv_if_eq (tgt := 30) hx hb dX9_cell_13 (by decide) (fun c29 => ?_) (fun c29 => ?_)
  · have h := i_yes c29 h
    refine lv_iconst (v := (-1)) hx hb dX9_cell_30 (by decide) ?_
    cases h
    exact r_iret hC hw dX9_cell_31
  · have h := i_no c29 h
    refine lv_iload_n hx hb dX9_cell_16 rfl (lv_at hl 2 rfl) ?_
    refine lv_i2l (v := x2.toInt64) hx hb dX9_cell_17 rfl ?_
    refine lv_ldc2 (v := (-512)) hx hb hC.2.2.2.1 (hC.2.2.2.2.1 _ lk_1565) dX9_cell_18 ?_
    refine lv_ldc2 (v := (-1)) hx hb hC.2.2.2.1 (hC.2.2.2.2.1 _ lk_1365) dX9_cell_21 ?_
    obtain ⟨r31, hq30, h⟩ := pq_i h
    refine r_cS (st' := [.int r31]) [.long x2.toInt64, .long (-512 : Int64), .long (-1 : Int64)] [] hC hw (k_X9_in _ hq30) mk_X9_in lk_1243 ⟨Nat.le_trans (by decide) hR.1, Nat.le_trans (by decide) hR.2⟩ ⟨Nat.zero_le _, Nat.zero_le _⟩ rfl hl.1 rfl rfl (Nat.le_of_ble_eq_true rfl) dX9_cell_24 (fun hP H locs hw => ?_)
    refine lv_if_ne (tgt := 32) hx hb dX9_cell_27 (by decide) (fun c32 => ?_) (fun c32 => ?_)
    · have h := i_no c32 h
      refine lv_aload_n hx hb dX9_cell_32 rfl (lv_at hl 0 rfl) ?_
      obtain ⟨o33, ho36, h⟩ := rq_i h
      refine r_getR hC hw kc_8 hi0 27 rfl lk_1099 dX9_cell_33 rfl ho36 (fun a34 hi35 => ?_)
      refine lv_iload_n hx hb dX9_cell_36 rfl (lv_at hl 1 rfl) ?_
      obtain ⟨hn37, h⟩ := ix_i h
      refine r_zald hC hw hi35 hn37 dX9_cell_37 ?_
      refine lv_if_ne (tgt := 43) hx hb dX9_cell_38 (by decide) (fun c38 => ?_) (fun c38 => ?_)
      · have h := i_no c38 h
        refine lv_aload_n hx hb dX9_cell_43 rfl (lv_at hl 0 rfl) ?_
        obtain ⟨o39, ho42, h⟩ := rq_i h
        refine r_getR hC hw kc_8 hi0 35 rfl lk_1107 dX9_cell_44 rfl ho42 (fun a40 hi41 => ?_)
        refine lv_bipush (v := 64) hx hb dX9_cell_47 (by decide) ?_
        refine lv_iload_n hx hb dX9_cell_49 rfl (lv_at hl 1 rfl) ?_
        refine lv_imul hx hb dX9_cell_50 ?_
        refine lv_iload_n hx hb dX9_cell_51 rfl (lv_at hl 2 rfl) ?_
        refine lv_sipush (v := 512) hx hb dX9_cell_52 (by decide) ?_
        refine lv_iadd hx hb dX9_cell_55 ?_
        refine lv_bipush (v := 8) hx hb dX9_cell_56 (by decide) ?_
        refine lv_idiv hx hb dX9_cell_58 (by decide) ?_
        refine lv_iadd hx hb dX9_cell_59 ?_
        obtain ⟨hn43, h⟩ := ix_i h
        refine r_iald hC hw hi41 hn43 dX9_cell_60 ?_
        refine lv_topi (fun y44 ey44 => ?_)
        have h := nm_i h y44 ey44
        refine lv_istore_n (lv' := [(3, .int y44), (0, .ref a0), (1, .int x1), (2, .int x2)]) hx hb dX9_cell_61 rfl hl (by decide) rfl (fun ls hl => ?_)
        refine lv_iload_n hx hb dX9_cell_62 rfl (lv_at hl 0 rfl) ?_
        refine lv_iconst (v := 1) hx hb dX9_cell_63 (by decide) ?_
        refine lv_icmp_ne (tgt := 71) hx hb dX9_cell_64 (by decide) (fun c45 => ?_) (fun c45 => ?_)
        · have h := i_no c45 h
          refine lv_iload_n hx hb dX9_cell_71 rfl (lv_at hl 0 rfl) ?_
          refine lv_if_eq (tgt := 79) hx hb dX9_cell_72 (by decide) (fun c46 => ?_) (fun c46 => ?_)
          · have h := i_yes c46 h
            refine lv_aload_n hx hb dX9_cell_79 rfl (lv_at hl 1 rfl) ?_
            obtain ⟨o47, ho50, h⟩ := rq_i h
            refine r_getR hC hw kc_8 hi0 34 rfl lk_1106 dX9_cell_80 rfl ho50 (fun a48 hi49 => ?_)
            refine lv_sipush (v := 512) hx hb dX9_cell_83 (by decide) ?_
            refine lv_iload_n hx hb dX9_cell_86 rfl (lv_at hl 2 rfl) ?_
            refine lv_imul hx hb dX9_cell_87 ?_
            refine lv_iload_n hx hb dX9_cell_88 rfl (lv_at hl 3 rfl) ?_
            refine lv_iadd hx hb dX9_cell_89 ?_
            refine lv_sipush (v := 512) hx hb dX9_cell_90 (by decide) ?_
            refine lv_iadd hx hb dX9_cell_93 ?_
            obtain ⟨hn51, h⟩ := ix_i h
            refine r_zald hC hw hi49 hn51 dX9_cell_94 ?_
            refine lv_if_eq (tgt := 102) hx hb dX9_cell_95 (by decide) (fun c52 => ?_) (fun c52 => ?_)
            · have h := i_yes c52 h
              refine lv_iconst (v := 0) hx hb dX9_cell_102 (by decide) ?_
              cases h
              exact r_iret hC hw dX9_cell_103
            · have h := i_no c52 h
              refine lv_iconst (v := 1) hx hb dX9_cell_98 (by decide) ?_
              refine lv_goto (tgt := 103) hx hb dX9_cell_99 (by decide) ?_
              cases h
              exact r_iret hC hw dX9_cell_103
          · have h := i_no c46 h
            refine lv_iconst (v := 3) hx hb dX9_cell_75 (by decide) ?_
            refine lv_goto (tgt := 103) hx hb dX9_cell_76 (by decide) ?_
            cases h
            exact r_iret hC hw dX9_cell_103
        · have h := i_yes c45 h
          refine lv_iconst (v := 2) hx hb dX9_cell_67 (by decide) ?_
          refine lv_goto (tgt := 103) hx hb dX9_cell_68 (by decide) ?_
          cases h
          exact r_iret hC hw dX9_cell_103
      · have h := i_yes c38 h
        refine lv_iconst (v := 0) hx hb dX9_cell_41 (by decide) ?_
        cases h
        exact r_iret hC hw dX9_cell_42
    · have h := i_yes c32 h
      refine lv_iconst (v := (-1)) hx hb dX9_cell_30 (by decide) ?_
      cases h
      exact r_iret hC hw dX9_cell_31
set_option maxHeartbeats 4000000 in
set_option maxRecDepth 100000 in
theorem k_X9_cell {l : Launch} {G : va_G} {cA : Nat → ClassId} {S : sh} {D : dt} {ad : Nat → Nat} (sz : Nat) {o0 a0 : Nat} {x1 : Int32} {x2 : Int32} {r : Int32} (hi0 : Is S ad o0 a0 8) (h : f_X9_cell S D o0 x1 x2 = some r) : Co l yX9_cell (Cond.code yX9_cell cX9_cell 4 (some .int) :: tb0) 1 25 [.ref a0, .int x1, .int x2] G cA S D ad sz (some (.int r)) True D := by
  refine Met.ofW (cc := cX9_cell) (maxL := 4) (ret := (some .int)) (by decide) rfl ?_
  intro p e s m args below meth c s₁ B hml hv
  obtain ⟨rfl, hsz, hP, hK, hD0, hT, hX⟩ := hv
  subst hsz
  have hts := atoms_spec (ws := Cond.code yX9_cell cX9_cell 4 (some .int) :: tb0) B.pre
  have hC : Cx RX9 cX9_cell 4 (some .int) p s m _ meth c := ⟨B.exec, B.bytes, hml, findClass_of_methodNamed B.named, fun w q => hts w (List.mem_cons_of_mem _ q), B.returns, B.notSynchronized⟩
  have hw := Wd.entry hP hK hD0 hT hX
  have hl := lv_entry ([.ref a0, .int x1, .int x2]) (n := 4) (Nat.le_of_ble_eq_true rfl)
  rw [lg_entry_eq]
  exact w_X9_cell_0 hC ⟨Nat.le_refl _, Nat.le_refl _⟩ o0 a0 x1 x2 _ _ _ hi0 hw hl h
end

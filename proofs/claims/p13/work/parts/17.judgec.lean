theorem dX0_judgeBranch_0 : decode cX0_judgeBranch 0 = .ok (.aload_n 0, 1) := by decide +kernel
theorem dX0_judgeBranch_1 : decode cX0_judgeBranch 1 = .ok (.getfield 40, 3) := by decide +kernel
theorem dX0_judgeBranch_4 : decode cX0_judgeBranch 4 = .ok (.iload_n 1, 1) := by decide +kernel
theorem dX0_judgeBranch_5 : decode cX0_judgeBranch 5 = .ok (.invokevirtual 119, 3) := by decide +kernel
theorem dX0_judgeBranch_8 : decode cX0_judgeBranch 8 = .ok (.istore_n 2, 1) := by decide +kernel
theorem dX0_judgeBranch_9 : decode cX0_judgeBranch 9 = .ok (.aload_n 0, 1) := by decide +kernel
theorem dX0_judgeBranch_10 : decode cX0_judgeBranch 10 = .ok (.getfield 40, 3) := by decide +kernel
theorem dX0_judgeBranch_13 : decode cX0_judgeBranch 13 = .ok (.getfield 158, 3) := by decide +kernel
theorem dX0_judgeBranch_16 : decode cX0_judgeBranch 16 = .ok (.iload_n 1, 1) := by decide +kernel
theorem dX0_judgeBranch_17 : decode cX0_judgeBranch 17 = .ok (.iaload, 1) := by decide +kernel
theorem dX0_judgeBranch_18 : decode cX0_judgeBranch 18 = .ok (.istore_n 3, 1) := by decide +kernel
theorem dX0_judgeBranch_19 : decode cX0_judgeBranch 19 = .ok (.aload_n 0, 1) := by decide +kernel
theorem dX0_judgeBranch_20 : decode cX0_judgeBranch 20 = .ok (.getfield 40, 3) := by decide +kernel
theorem dX0_judgeBranch_23 : decode cX0_judgeBranch 23 = .ok (.getfield 146, 3) := by decide +kernel
theorem dX0_judgeBranch_26 : decode cX0_judgeBranch 26 = .ok (.iload_n 1, 1) := by decide +kernel
theorem dX0_judgeBranch_27 : decode cX0_judgeBranch 27 = .ok (.iaload, 1) := by decide +kernel
theorem dX0_judgeBranch_28 : decode cX0_judgeBranch 28 = .ok (.istore 4, 2) := by decide +kernel
theorem dX0_judgeBranch_30 : decode cX0_judgeBranch 30 = .ok (.aload_n 0, 1) := by decide +kernel
theorem dX0_judgeBranch_31 : decode cX0_judgeBranch 31 = .ok (.getfield 40, 3) := by decide +kernel
theorem dX0_judgeBranch_34 : decode cX0_judgeBranch 34 = .ok (.iload_n 1, 1) := by decide +kernel
theorem dX0_judgeBranch_35 : decode cX0_judgeBranch 35 = .ok (.invokevirtual 248, 3) := by decide +kernel
theorem dX0_judgeBranch_38 : decode cX0_judgeBranch 38 = .ok (.istore 5, 2) := by decide +kernel
theorem dX0_judgeBranch_40 : decode cX0_judgeBranch 40 = .ok (.aload_n 0, 1) := by decide +kernel
theorem dX0_judgeBranch_41 : decode cX0_judgeBranch 41 = .ok (.getfield 22, 3) := by decide +kernel
theorem dX0_judgeBranch_44 : decode cX0_judgeBranch 44 = .ok (.iload_n 3, 1) := by decide +kernel
theorem dX0_judgeBranch_45 : decode cX0_judgeBranch 45 = .ok (.invokevirtual 217, 3) := by decide +kernel
theorem dX0_judgeBranch_48 : decode cX0_judgeBranch 48 = .ok (.ifCond .ne 20, 3) := by decide +kernel
theorem dX0_judgeBranch_51 : decode cX0_judgeBranch 51 = .ok (.iload 5, 2) := by decide +kernel
theorem dX0_judgeBranch_53 : decode cX0_judgeBranch 53 = .ok (.ifCond .eq 17, 3) := by decide +kernel
theorem dX0_judgeBranch_56 : decode cX0_judgeBranch 56 = .ok (.aload_n 0, 1) := by decide +kernel
theorem dX0_judgeBranch_57 : decode cX0_judgeBranch 57 = .ok (.getfield 22, 3) := by decide +kernel
theorem dX0_judgeBranch_60 : decode cX0_judgeBranch 60 = .ok (.iload 4, 2) := by decide +kernel
theorem dX0_judgeBranch_62 : decode cX0_judgeBranch 62 = .ok (.invokevirtual 217, 3) := by decide +kernel
theorem dX0_judgeBranch_65 : decode cX0_judgeBranch 65 = .ok (.ifCond .eq 5, 3) := by decide +kernel
theorem dX0_judgeBranch_68 : decode cX0_judgeBranch 68 = .ok (.iconst 2, 1) := by decide +kernel
theorem dX0_judgeBranch_69 : decode cX0_judgeBranch 69 = .ok (.ireturn, 1) := by decide +kernel
theorem dX0_judgeBranch_70 : decode cX0_judgeBranch 70 = .ok (.iload_n 2, 1) := by decide +kernel
theorem dX0_judgeBranch_71 : decode cX0_judgeBranch 71 = .ok (.iconst 1, 1) := by decide +kernel
theorem dX0_judgeBranch_72 : decode cX0_judgeBranch 72 = .ok (.if_icmp .eq 8, 3) := by decide +kernel
theorem dX0_judgeBranch_75 : decode cX0_judgeBranch 75 = .ok (.iload_n 2, 1) := by decide +kernel
theorem dX0_judgeBranch_76 : decode cX0_judgeBranch 76 = .ok (.iconst 5, 1) := by decide +kernel
theorem dX0_judgeBranch_77 : decode cX0_judgeBranch 77 = .ok (.if_icmp .ne 7, 3) := by decide +kernel
theorem dX0_judgeBranch_80 : decode cX0_judgeBranch 80 = .ok (.iconst 1, 1) := by decide +kernel
theorem dX0_judgeBranch_81 : decode cX0_judgeBranch 81 = .ok (.goto 4, 3) := by decide +kernel
theorem dX0_judgeBranch_84 : decode cX0_judgeBranch 84 = .ok (.iconst 0, 1) := by decide +kernel
theorem dX0_judgeBranch_85 : decode cX0_judgeBranch 85 = .ok (.istore 6, 2) := by decide +kernel
theorem dX0_judgeBranch_87 : decode cX0_judgeBranch 87 = .ok (.iload 5, 2) := by decide +kernel
theorem dX0_judgeBranch_89 : decode cX0_judgeBranch 89 = .ok (.ifCond .ne 19, 3) := by decide +kernel
theorem dX0_judgeBranch_92 : decode cX0_judgeBranch 92 = .ok (.aload_n 0, 1) := by decide +kernel
theorem dX0_judgeBranch_93 : decode cX0_judgeBranch 93 = .ok (.getfield 40, 3) := by decide +kernel
theorem dX0_judgeBranch_96 : decode cX0_judgeBranch 96 = .ok (.getfield 122, 3) := by decide +kernel
theorem dX0_judgeBranch_99 : decode cX0_judgeBranch 99 = .ok (.iload_n 1, 1) := by decide +kernel
theorem dX0_judgeBranch_100 : decode cX0_judgeBranch 100 = .ok (.iaload, 1) := by decide +kernel
theorem dX0_judgeBranch_101 : decode cX0_judgeBranch 101 = .ok (.ifCond .ne 7, 3) := by decide +kernel
theorem dX0_judgeBranch_104 : decode cX0_judgeBranch 104 = .ok (.iconst 1, 1) := by decide +kernel
theorem dX0_judgeBranch_105 : decode cX0_judgeBranch 105 = .ok (.goto 4, 3) := by decide +kernel
theorem dX0_judgeBranch_108 : decode cX0_judgeBranch 108 = .ok (.iconst 0, 1) := by decide +kernel
theorem dX0_judgeBranch_109 : decode cX0_judgeBranch 109 = .ok (.istore 7, 2) := by decide +kernel
theorem dX0_judgeBranch_111 : decode cX0_judgeBranch 111 = .ok (.aload_n 0, 1) := by decide +kernel
theorem dX0_judgeBranch_112 : decode cX0_judgeBranch 112 = .ok (.getfield 22, 3) := by decide +kernel
theorem dX0_judgeBranch_115 : decode cX0_judgeBranch 115 = .ok (.iload_n 3, 1) := by decide +kernel
theorem dX0_judgeBranch_116 : decode cX0_judgeBranch 116 = .ok (.invokevirtual 171, 3) := by decide +kernel
theorem dX0_judgeBranch_119 : decode cX0_judgeBranch 119 = .ok (.bipush 6, 2) := by decide +kernel
theorem dX0_judgeBranch_121 : decode cX0_judgeBranch 121 = .ok (.if_icmp .ne 54, 3) := by decide +kernel
theorem dX0_judgeBranch_124 : decode cX0_judgeBranch 124 = .ok (.iload 6, 2) := by decide +kernel
theorem dX0_judgeBranch_126 : decode cX0_judgeBranch 126 = .ok (.ifCond .eq 49, 3) := by decide +kernel
theorem dX0_judgeBranch_129 : decode cX0_judgeBranch 129 = .ok (.iload 7, 2) := by decide +kernel
theorem dX0_judgeBranch_131 : decode cX0_judgeBranch 131 = .ok (.ifCond .eq 44, 3) := by decide +kernel
theorem dX0_judgeBranch_134 : decode cX0_judgeBranch 134 = .ok (.aload_n 0, 1) := by decide +kernel
theorem dX0_judgeBranch_135 : decode cX0_judgeBranch 135 = .ok (.getfield 40, 3) := by decide +kernel
theorem dX0_judgeBranch_138 : decode cX0_judgeBranch 138 = .ok (.iload_n 1, 1) := by decide +kernel
theorem dX0_judgeBranch_139 : decode cX0_judgeBranch 139 = .ok (.invokevirtual 251, 3) := by decide +kernel
theorem dX0_judgeBranch_142 : decode cX0_judgeBranch 142 = .ok (.ifCond .eq 33, 3) := by decide +kernel
theorem dX0_judgeBranch_145 : decode cX0_judgeBranch 145 = .ok (.aload_n 0, 1) := by decide +kernel
theorem dX0_judgeBranch_146 : decode cX0_judgeBranch 146 = .ok (.iload_n 1, 1) := by decide +kernel
theorem dX0_judgeBranch_147 : decode cX0_judgeBranch 147 = .ok (.invokevirtual 310, 3) := by decide +kernel
theorem dX0_judgeBranch_150 : decode cX0_judgeBranch 150 = .ok (.aload_n 0, 1) := by decide +kernel
theorem dX0_judgeBranch_151 : decode cX0_judgeBranch 151 = .ok (.aload_n 0, 1) := by decide +kernel
theorem dX0_judgeBranch_152 : decode cX0_judgeBranch 152 = .ok (.getfield 22, 3) := by decide +kernel
theorem dX0_judgeBranch_155 : decode cX0_judgeBranch 155 = .ok (.getfield 291, 3) := by decide +kernel
theorem dX0_judgeBranch_158 : decode cX0_judgeBranch 158 = .ok (.iload_n 3, 1) := by decide +kernel
theorem dX0_judgeBranch_159 : decode cX0_judgeBranch 159 = .ok (.iaload, 1) := by decide +kernel
theorem dX0_judgeBranch_160 : decode cX0_judgeBranch 160 = .ok (.iload_n 2, 1) := by decide +kernel
theorem dX0_judgeBranch_161 : decode cX0_judgeBranch 161 = .ok (.iconst 1, 1) := by decide +kernel
theorem dX0_judgeBranch_162 : decode cX0_judgeBranch 162 = .ok (.if_icmp .ne 7, 3) := by decide +kernel
theorem dX0_judgeBranch_165 : decode cX0_judgeBranch 165 = .ok (.iconst 1, 1) := by decide +kernel
theorem dX0_judgeBranch_166 : decode cX0_judgeBranch 166 = .ok (.goto 4, 3) := by decide +kernel
theorem dX0_judgeBranch_169 : decode cX0_judgeBranch 169 = .ok (.iconst 0, 1) := by decide +kernel
theorem dX0_judgeBranch_170 : decode cX0_judgeBranch 170 = .ok (.invokevirtual 314, 3) := by decide +kernel
theorem dX0_judgeBranch_173 : decode cX0_judgeBranch 173 = .ok (.iconst 0, 1) := by decide +kernel
theorem dX0_judgeBranch_174 : decode cX0_judgeBranch 174 = .ok (.ireturn, 1) := by decide +kernel
theorem dX0_judgeBranch_175 : decode cX0_judgeBranch 175 = .ok (.aload_n 0, 1) := by decide +kernel
theorem dX0_judgeBranch_176 : decode cX0_judgeBranch 176 = .ok (.getfield 22, 3) := by decide +kernel
theorem dX0_judgeBranch_179 : decode cX0_judgeBranch 179 = .ok (.iload_n 3, 1) := by decide +kernel
theorem dX0_judgeBranch_180 : decode cX0_judgeBranch 180 = .ok (.invokevirtual 239, 3) := by decide +kernel
theorem dX0_judgeBranch_183 : decode cX0_judgeBranch 183 = .ok (.ifCond .eq 20, 3) := by decide +kernel
theorem dX0_judgeBranch_186 : decode cX0_judgeBranch 186 = .ok (.iload 5, 2) := by decide +kernel
theorem dX0_judgeBranch_188 : decode cX0_judgeBranch 188 = .ok (.ifCond .eq 17, 3) := by decide +kernel
theorem dX0_judgeBranch_191 : decode cX0_judgeBranch 191 = .ok (.aload_n 0, 1) := by decide +kernel
theorem dX0_judgeBranch_192 : decode cX0_judgeBranch 192 = .ok (.getfield 22, 3) := by decide +kernel
theorem dX0_judgeBranch_195 : decode cX0_judgeBranch 195 = .ok (.iload 4, 2) := by decide +kernel
theorem dX0_judgeBranch_197 : decode cX0_judgeBranch 197 = .ok (.invokevirtual 239, 3) := by decide +kernel
theorem dX0_judgeBranch_200 : decode cX0_judgeBranch 200 = .ok (.ifCond .ne 5, 3) := by decide +kernel
theorem dX0_judgeBranch_203 : decode cX0_judgeBranch 203 = .ok (.iconst 3, 1) := by decide +kernel
theorem dX0_judgeBranch_204 : decode cX0_judgeBranch 204 = .ok (.ireturn, 1) := by decide +kernel
theorem dX0_judgeBranch_205 : decode cX0_judgeBranch 205 = .ok (.aload_n 0, 1) := by decide +kernel
theorem dX0_judgeBranch_206 : decode cX0_judgeBranch 206 = .ok (.iload_n 1, 1) := by decide +kernel
theorem dX0_judgeBranch_207 : decode cX0_judgeBranch 207 = .ok (.invokevirtual 310, 3) := by decide +kernel
theorem dX0_judgeBranch_210 : decode cX0_judgeBranch 210 = .ok (.aload_n 0, 1) := by decide +kernel
theorem dX0_judgeBranch_211 : decode cX0_judgeBranch 211 = .ok (.getfield 40, 3) := by decide +kernel
theorem dX0_judgeBranch_214 : decode cX0_judgeBranch 214 = .ok (.iload_n 1, 1) := by decide +kernel
theorem dX0_judgeBranch_215 : decode cX0_judgeBranch 215 = .ok (.invokevirtual 251, 3) := by decide +kernel
theorem dX0_judgeBranch_218 : decode cX0_judgeBranch 218 = .ok (.ifCond .eq 99, 3) := by decide +kernel
theorem dX0_judgeBranch_221 : decode cX0_judgeBranch 221 = .ok (.iload 6, 2) := by decide +kernel
theorem dX0_judgeBranch_223 : decode cX0_judgeBranch 223 = .ok (.ifCond .ne 10, 3) := by decide +kernel
theorem dX0_judgeBranch_226 : decode cX0_judgeBranch 226 = .ok (.iload_n 2, 1) := by decide +kernel
theorem dX0_judgeBranch_227 : decode cX0_judgeBranch 227 = .ok (.invokestatic 317, 3) := by decide +kernel
theorem dX0_judgeBranch_230 : decode cX0_judgeBranch 230 = .ok (.ifCond .eq 87, 3) := by decide +kernel
theorem dX0_judgeBranch_233 : decode cX0_judgeBranch 233 = .ok (.iload 5, 2) := by decide +kernel
theorem dX0_judgeBranch_235 : decode cX0_judgeBranch 235 = .ok (.ifCond .eq 15, 3) := by decide +kernel
theorem dX0_judgeBranch_238 : decode cX0_judgeBranch 238 = .ok (.aload_n 0, 1) := by decide +kernel
theorem dX0_judgeBranch_239 : decode cX0_judgeBranch 239 = .ok (.getfield 22, 3) := by decide +kernel
theorem dX0_judgeBranch_242 : decode cX0_judgeBranch 242 = .ok (.iload 4, 2) := by decide +kernel
theorem dX0_judgeBranch_244 : decode cX0_judgeBranch 244 = .ok (.invokevirtual 320, 3) := by decide +kernel
theorem dX0_judgeBranch_247 : decode cX0_judgeBranch 247 = .ok (.ifCond .eq 40, 3) := by decide +kernel
theorem dX0_judgeBranch_250 : decode cX0_judgeBranch 250 = .ok (.aload_n 0, 1) := by decide +kernel
theorem dX0_judgeBranch_251 : decode cX0_judgeBranch 251 = .ok (.iload_n 3, 1) := by decide +kernel
theorem dX0_judgeBranch_252 : decode cX0_judgeBranch 252 = .ok (.iload_n 2, 1) := by decide +kernel
theorem dX0_judgeBranch_253 : decode cX0_judgeBranch 253 = .ok (.iload 5, 2) := by decide +kernel
theorem dX0_judgeBranch_255 : decode cX0_judgeBranch 255 = .ok (.ifCond .eq 16, 3) := by decide +kernel
theorem dX0_judgeBranch_258 : decode cX0_judgeBranch 258 = .ok (.aload_n 0, 1) := by decide +kernel
theorem dX0_judgeBranch_259 : decode cX0_judgeBranch 259 = .ok (.getfield 22, 3) := by decide +kernel
theorem dX0_judgeBranch_262 : decode cX0_judgeBranch 262 = .ok (.getfield 174, 3) := by decide +kernel
theorem dX0_judgeBranch_265 : decode cX0_judgeBranch 265 = .ok (.iload 4, 2) := by decide +kernel
theorem dX0_judgeBranch_267 : decode cX0_judgeBranch 267 = .ok (.laload, 1) := by decide +kernel
theorem dX0_judgeBranch_268 : decode cX0_judgeBranch 268 = .ok (.goto 13, 3) := by decide +kernel
theorem dX0_judgeBranch_271 : decode cX0_judgeBranch 271 = .ok (.aload_n 0, 1) := by decide +kernel
theorem dX0_judgeBranch_272 : decode cX0_judgeBranch 272 = .ok (.getfield 40, 3) := by decide +kernel
theorem dX0_judgeBranch_275 : decode cX0_judgeBranch 275 = .ok (.getfield 122, 3) := by decide +kernel
theorem dX0_judgeBranch_278 : decode cX0_judgeBranch 278 = .ok (.iload_n 1, 1) := by decide +kernel
theorem dX0_judgeBranch_279 : decode cX0_judgeBranch 279 = .ok (.iaload, 1) := by decide +kernel
theorem dX0_judgeBranch_280 : decode cX0_judgeBranch 280 = .ok (.i2l, 1) := by decide +kernel
theorem dX0_judgeBranch_281 : decode cX0_judgeBranch 281 = .ok (.invokevirtual 323, 3) := by decide +kernel
theorem dX0_judgeBranch_284 : decode cX0_judgeBranch 284 = .ok (.goto 33, 3) := by decide +kernel
theorem dX0_judgeBranch_287 : decode cX0_judgeBranch 287 = .ok (.aload_n 0, 1) := by decide +kernel
theorem dX0_judgeBranch_288 : decode cX0_judgeBranch 288 = .ok (.getfield 22, 3) := by decide +kernel
theorem dX0_judgeBranch_291 : decode cX0_judgeBranch 291 = .ok (.iload_n 3, 1) := by decide +kernel
theorem dX0_judgeBranch_292 : decode cX0_judgeBranch 292 = .ok (.invokevirtual 320, 3) := by decide +kernel
theorem dX0_judgeBranch_295 : decode cX0_judgeBranch 295 = .ok (.ifCond .eq 22, 3) := by decide +kernel
theorem dX0_judgeBranch_298 : decode cX0_judgeBranch 298 = .ok (.aload_n 0, 1) := by decide +kernel
theorem dX0_judgeBranch_299 : decode cX0_judgeBranch 299 = .ok (.iload 4, 2) := by decide +kernel
theorem dX0_judgeBranch_301 : decode cX0_judgeBranch 301 = .ok (.iload_n 2, 1) := by decide +kernel
theorem dX0_judgeBranch_302 : decode cX0_judgeBranch 302 = .ok (.invokestatic 327, 3) := by decide +kernel
theorem dX0_judgeBranch_305 : decode cX0_judgeBranch 305 = .ok (.aload_n 0, 1) := by decide +kernel
theorem dX0_judgeBranch_306 : decode cX0_judgeBranch 306 = .ok (.getfield 22, 3) := by decide +kernel
theorem dX0_judgeBranch_309 : decode cX0_judgeBranch 309 = .ok (.getfield 174, 3) := by decide +kernel
theorem dX0_judgeBranch_312 : decode cX0_judgeBranch 312 = .ok (.iload_n 3, 1) := by decide +kernel
theorem dX0_judgeBranch_313 : decode cX0_judgeBranch 313 = .ok (.laload, 1) := by decide +kernel
theorem dX0_judgeBranch_314 : decode cX0_judgeBranch 314 = .ok (.invokevirtual 323, 3) := by decide +kernel
theorem dX0_judgeBranch_317 : decode cX0_judgeBranch 317 = .ok (.iconst 0, 1) := by decide +kernel
theorem dX0_judgeBranch_318 : decode cX0_judgeBranch 318 = .ok (.ireturn, 1) := by decide +kernel
theorem dX0_judgeJump_0 : decode cX0_judgeJump 0 = .ok (.aload_n 0, 1) := by decide +kernel
theorem dX0_judgeJump_1 : decode cX0_judgeJump 1 = .ok (.getfield 40, 3) := by decide +kernel
theorem dX0_judgeJump_4 : decode cX0_judgeJump 4 = .ok (.iload_n 1, 1) := by decide +kernel
theorem dX0_judgeJump_5 : decode cX0_judgeJump 5 = .ok (.invokevirtual 119, 3) := by decide +kernel
theorem dX0_judgeJump_8 : decode cX0_judgeJump 8 = .ok (.istore_n 2, 1) := by decide +kernel
theorem dX0_judgeJump_9 : decode cX0_judgeJump 9 = .ok (.iload_n 2, 1) := by decide +kernel
theorem dX0_judgeJump_10 : decode cX0_judgeJump 10 = .ok (.bipush 9, 2) := by decide +kernel
theorem dX0_judgeJump_12 : decode cX0_judgeJump 12 = .ok (.if_icmp .ne 25, 3) := by decide +kernel
theorem dX0_judgeJump_15 : decode cX0_judgeJump 15 = .ok (.aload_n 0, 1) := by decide +kernel
theorem dX0_judgeJump_16 : decode cX0_judgeJump 16 = .ok (.iconst 0, 1) := by decide +kernel
theorem dX0_judgeJump_17 : decode cX0_judgeJump 17 = .ok (.putfield 90, 3) := by decide +kernel
theorem dX0_judgeJump_20 : decode cX0_judgeJump 20 = .ok (.aload_n 0, 1) := by decide +kernel
theorem dX0_judgeJump_21 : decode cX0_judgeJump 21 = .ok (.getfield 22, 3) := by decide +kernel
theorem dX0_judgeJump_24 : decode cX0_judgeJump 24 = .ok (.iconst 0, 1) := by decide +kernel
theorem dX0_judgeJump_25 : decode cX0_judgeJump 25 = .ok (.invokevirtual 239, 3) := by decide +kernel
theorem dX0_judgeJump_28 : decode cX0_judgeJump 28 = .ok (.ifCond .eq 7, 3) := by decide +kernel
theorem dX0_judgeJump_31 : decode cX0_judgeJump 31 = .ok (.iconst 0, 1) := by decide +kernel
theorem dX0_judgeJump_32 : decode cX0_judgeJump 32 = .ok (.goto 4, 3) := by decide +kernel
theorem dX0_judgeJump_35 : decode cX0_judgeJump 35 = .ok (.iconst 5, 1) := by decide +kernel
theorem dX0_judgeJump_36 : decode cX0_judgeJump 36 = .ok (.ireturn, 1) := by decide +kernel
theorem dX0_judgeJump_37 : decode cX0_judgeJump 37 = .ok (.iload_n 2, 1) := by decide +kernel
theorem dX0_judgeJump_38 : decode cX0_judgeJump 38 = .ok (.ifCond .ne 23, 3) := by decide +kernel
theorem dX0_judgeJump_41 : decode cX0_judgeJump 41 = .ok (.aload_n 0, 1) := by decide +kernel
theorem dX0_judgeJump_42 : decode cX0_judgeJump 42 = .ok (.iload_n 1, 1) := by decide +kernel
theorem dX0_judgeJump_43 : decode cX0_judgeJump 43 = .ok (.i2l, 1) := by decide +kernel
theorem dX0_judgeJump_44 : decode cX0_judgeJump 44 = .ok (.lconst 1, 1) := by decide +kernel
theorem dX0_judgeJump_45 : decode cX0_judgeJump 45 = .ok (.ladd, 1) := by decide +kernel
theorem dX0_judgeJump_46 : decode cX0_judgeJump 46 = .ok (.aload_n 0, 1) := by decide +kernel
theorem dX0_judgeJump_47 : decode cX0_judgeJump 47 = .ok (.getfield 40, 3) := by decide +kernel
theorem dX0_judgeJump_50 : decode cX0_judgeJump 50 = .ok (.iload_n 1, 1) := by decide +kernel
theorem dX0_judgeJump_51 : decode cX0_judgeJump 51 = .ok (.invokevirtual 304, 3) := by decide +kernel
theorem dX0_judgeJump_54 : decode cX0_judgeJump 54 = .ok (.i2l, 1) := by decide +kernel
theorem dX0_judgeJump_55 : decode cX0_judgeJump 55 = .ok (.ladd, 1) := by decide +kernel
theorem dX0_judgeJump_56 : decode cX0_judgeJump 56 = .ok (.putfield 93, 3) := by decide +kernel
theorem dX0_judgeJump_59 : decode cX0_judgeJump 59 = .ok (.iconst 0, 1) := by decide +kernel
theorem dX0_judgeJump_60 : decode cX0_judgeJump 60 = .ok (.ireturn, 1) := by decide +kernel
theorem dX0_judgeJump_61 : decode cX0_judgeJump 61 = .ok (.aload_n 0, 1) := by decide +kernel
theorem dX0_judgeJump_62 : decode cX0_judgeJump 62 = .ok (.iload_n 1, 1) := by decide +kernel
theorem dX0_judgeJump_63 : decode cX0_judgeJump 63 = .ok (.invokevirtual 307, 3) := by decide +kernel
theorem dX0_judgeJump_66 : decode cX0_judgeJump 66 = .ok (.ireturn, 1) := by decide +kernel
theorem dX0_judgeSlot_0 : decode cX0_judgeSlot 0 = .ok (.aload_n 0, 1) := by decide +kernel
theorem dX0_judgeSlot_1 : decode cX0_judgeSlot 1 = .ok (.getfield 40, 3) := by decide +kernel
theorem dX0_judgeSlot_4 : decode cX0_judgeSlot 4 = .ok (.iload_n 1, 1) := by decide +kernel
theorem dX0_judgeSlot_5 : decode cX0_judgeSlot 5 = .ok (.invokevirtual 86, 3) := by decide +kernel
theorem dX0_judgeSlot_8 : decode cX0_judgeSlot 8 = .ok (.ifCond .eq 5, 3) := by decide +kernel
theorem dX0_judgeSlot_11 : decode cX0_judgeSlot 11 = .ok (.iconst 1, 1) := by decide +kernel
theorem dX0_judgeSlot_12 : decode cX0_judgeSlot 12 = .ok (.ireturn, 1) := by decide +kernel
theorem dX0_judgeSlot_13 : decode cX0_judgeSlot 13 = .ok (.aload_n 0, 1) := by decide +kernel
theorem dX0_judgeSlot_14 : decode cX0_judgeSlot 14 = .ok (.getfield 22, 3) := by decide +kernel
theorem dX0_judgeSlot_17 : decode cX0_judgeSlot 17 = .ok (.aload_n 2, 1) := by decide +kernel
theorem dX0_judgeSlot_18 : decode cX0_judgeSlot 18 = .ok (.invokevirtual 66, 3) := by decide +kernel
theorem dX0_judgeSlot_21 : decode cX0_judgeSlot 21 = .ok (.aload_n 0, 1) := by decide +kernel
theorem dX0_judgeSlot_22 : decode cX0_judgeSlot 22 = .ok (.iconst 1, 1) := by decide +kernel
theorem dX0_judgeSlot_23 : decode cX0_judgeSlot 23 = .ok (.putfield 90, 3) := by decide +kernel
theorem dX0_judgeSlot_26 : decode cX0_judgeSlot 26 = .ok (.aload_n 0, 1) := by decide +kernel
theorem dX0_judgeSlot_27 : decode cX0_judgeSlot 27 = .ok (.iload_n 1, 1) := by decide +kernel
theorem dX0_judgeSlot_28 : decode cX0_judgeSlot 28 = .ok (.iconst 1, 1) := by decide +kernel
theorem dX0_judgeSlot_29 : decode cX0_judgeSlot 29 = .ok (.iadd, 1) := by decide +kernel
theorem dX0_judgeSlot_30 : decode cX0_judgeSlot 30 = .ok (.i2l, 1) := by decide +kernel
theorem dX0_judgeSlot_31 : decode cX0_judgeSlot 31 = .ok (.putfield 93, 3) := by decide +kernel
theorem dX0_judgeSlot_34 : decode cX0_judgeSlot 34 = .ok (.aload_n 0, 1) := by decide +kernel
theorem dX0_judgeSlot_35 : decode cX0_judgeSlot 35 = .ok (.iconst 0, 1) := by decide +kernel
theorem dX0_judgeSlot_36 : decode cX0_judgeSlot 36 = .ok (.putfield 97, 3) := by decide +kernel
theorem dX0_judgeSlot_39 : decode cX0_judgeSlot 39 = .ok (.aload_n 0, 1) := by decide +kernel
theorem dX0_judgeSlot_40 : decode cX0_judgeSlot 40 = .ok (.getfield 40, 3) := by decide +kernel
theorem dX0_judgeSlot_43 : decode cX0_judgeSlot 43 = .ok (.getfield 82, 3) := by decide +kernel
theorem dX0_judgeSlot_46 : decode cX0_judgeSlot 46 = .ok (.iload_n 1, 1) := by decide +kernel
theorem dX0_judgeSlot_47 : decode cX0_judgeSlot 47 = .ok (.iaload, 1) := by decide +kernel
theorem dX0_judgeSlot_48 : decode cX0_judgeSlot 48 = .ok (.bipush 7, 2) := by decide +kernel
theorem dX0_judgeSlot_50 : decode cX0_judgeSlot 50 = .ok (.iand, 1) := by decide +kernel
theorem dX0_judgeSlot_51 : decode cX0_judgeSlot 51 = .ok (.tableswitch 96 0 7 #[45, 51, 57, 64, 90, 96, 96, 90], 45) := by decide +kernel
theorem dX0_judgeSlot_96 : decode cX0_judgeSlot 96 = .ok (.aload_n 0, 1) := by decide +kernel
theorem dX0_judgeSlot_97 : decode cX0_judgeSlot 97 = .ok (.iload_n 1, 1) := by decide +kernel
theorem dX0_judgeSlot_98 : decode cX0_judgeSlot 98 = .ok (.invokevirtual 100, 3) := by decide +kernel
theorem dX0_judgeSlot_101 : decode cX0_judgeSlot 101 = .ok (.ireturn, 1) := by decide +kernel
theorem dX0_judgeSlot_102 : decode cX0_judgeSlot 102 = .ok (.aload_n 0, 1) := by decide +kernel
theorem dX0_judgeSlot_103 : decode cX0_judgeSlot 103 = .ok (.iload_n 1, 1) := by decide +kernel
theorem dX0_judgeSlot_104 : decode cX0_judgeSlot 104 = .ok (.invokevirtual 103, 3) := by decide +kernel
theorem dX0_judgeSlot_107 : decode cX0_judgeSlot 107 = .ok (.ireturn, 1) := by decide +kernel
theorem dX0_judgeSlot_108 : decode cX0_judgeSlot 108 = .ok (.aload_n 0, 1) := by decide +kernel
theorem dX0_judgeSlot_109 : decode cX0_judgeSlot 109 = .ok (.iload_n 1, 1) := by decide +kernel
theorem dX0_judgeSlot_110 : decode cX0_judgeSlot 110 = .ok (.iconst 0, 1) := by decide +kernel
theorem dX0_judgeSlot_111 : decode cX0_judgeSlot 111 = .ok (.invokevirtual 106, 3) := by decide +kernel
theorem dX0_judgeSlot_114 : decode cX0_judgeSlot 114 = .ok (.ireturn, 1) := by decide +kernel
theorem dX0_judgeSlot_115 : decode cX0_judgeSlot 115 = .ok (.aload_n 0, 1) := by decide +kernel
theorem dX0_judgeSlot_116 : decode cX0_judgeSlot 116 = .ok (.getfield 40, 3) := by decide +kernel
theorem dX0_judgeSlot_119 : decode cX0_judgeSlot 119 = .ok (.iload_n 1, 1) := by decide +kernel
theorem dX0_judgeSlot_120 : decode cX0_judgeSlot 120 = .ok (.invokevirtual 110, 3) := by decide +kernel
theorem dX0_judgeSlot_123 : decode cX0_judgeSlot 123 = .ok (.ifCond .eq 12, 3) := by decide +kernel
theorem dX0_judgeSlot_126 : decode cX0_judgeSlot 126 = .ok (.aload_n 0, 1) := by decide +kernel
theorem dX0_judgeSlot_127 : decode cX0_judgeSlot 127 = .ok (.iload_n 1, 1) := by decide +kernel
theorem dX0_judgeSlot_128 : decode cX0_judgeSlot 128 = .ok (.iconst 1, 1) := by decide +kernel
theorem dX0_judgeSlot_129 : decode cX0_judgeSlot 129 = .ok (.invokevirtual 106, 3) := by decide +kernel
theorem dX0_judgeSlot_132 : decode cX0_judgeSlot 132 = .ok (.goto 8, 3) := by decide +kernel
theorem dX0_judgeSlot_135 : decode cX0_judgeSlot 135 = .ok (.aload_n 0, 1) := by decide +kernel
theorem dX0_judgeSlot_136 : decode cX0_judgeSlot 136 = .ok (.iload_n 1, 1) := by decide +kernel
theorem dX0_judgeSlot_137 : decode cX0_judgeSlot 137 = .ok (.invokevirtual 113, 3) := by decide +kernel
theorem dX0_judgeSlot_140 : decode cX0_judgeSlot 140 = .ok (.ireturn, 1) := by decide +kernel
theorem dX0_judgeSlot_141 : decode cX0_judgeSlot 141 = .ok (.aload_n 0, 1) := by decide +kernel
theorem dX0_judgeSlot_142 : decode cX0_judgeSlot 142 = .ok (.iload_n 1, 1) := by decide +kernel
theorem dX0_judgeSlot_143 : decode cX0_judgeSlot 143 = .ok (.invokevirtual 116, 3) := by decide +kernel
theorem dX0_judgeSlot_146 : decode cX0_judgeSlot 146 = .ok (.ireturn, 1) := by decide +kernel
theorem dX0_judgeSlot_147 : decode cX0_judgeSlot 147 = .ok (.aload_n 0, 1) := by decide +kernel
theorem dX0_judgeSlot_148 : decode cX0_judgeSlot 148 = .ok (.getfield 40, 3) := by decide +kernel
theorem dX0_judgeSlot_151 : decode cX0_judgeSlot 151 = .ok (.iload_n 1, 1) := by decide +kernel
theorem dX0_judgeSlot_152 : decode cX0_judgeSlot 152 = .ok (.invokevirtual 119, 3) := by decide +kernel
theorem dX0_judgeSlot_155 : decode cX0_judgeSlot 155 = .ok (.bipush 8, 2) := by decide +kernel
theorem dX0_judgeSlot_157 : decode cX0_judgeSlot 157 = .ok (.if_icmp .ne 20, 3) := by decide +kernel
theorem dX0_judgeSlot_160 : decode cX0_judgeSlot 160 = .ok (.aload_n 0, 1) := by decide +kernel
theorem dX0_judgeSlot_161 : decode cX0_judgeSlot 161 = .ok (.iload_n 1, 1) := by decide +kernel
theorem dX0_judgeSlot_162 : decode cX0_judgeSlot 162 = .ok (.aload_n 0, 1) := by decide +kernel
theorem dX0_judgeSlot_163 : decode cX0_judgeSlot 163 = .ok (.getfield 40, 3) := by decide +kernel
theorem dX0_judgeSlot_166 : decode cX0_judgeSlot 166 = .ok (.getfield 122, 3) := by decide +kernel
theorem dX0_judgeSlot_169 : decode cX0_judgeSlot 169 = .ok (.iload_n 1, 1) := by decide +kernel
theorem dX0_judgeSlot_170 : decode cX0_judgeSlot 170 = .ok (.iaload, 1) := by decide +kernel
theorem dX0_judgeSlot_171 : decode cX0_judgeSlot 171 = .ok (.invokevirtual 125, 3) := by decide +kernel
theorem dX0_judgeSlot_174 : decode cX0_judgeSlot 174 = .ok (.goto 8, 3) := by decide +kernel
theorem dX0_judgeSlot_177 : decode cX0_judgeSlot 177 = .ok (.aload_n 0, 1) := by decide +kernel
theorem dX0_judgeSlot_178 : decode cX0_judgeSlot 178 = .ok (.iload_n 1, 1) := by decide +kernel
theorem dX0_judgeSlot_179 : decode cX0_judgeSlot 179 = .ok (.invokevirtual 129, 3) := by decide +kernel
theorem dX0_judgeSlot_182 : decode cX0_judgeSlot 182 = .ok (.ireturn, 1) := by decide +kernel
theorem dX0_canGoOn_0 : decode cX0_canGoOn 0 = .ok (.lload_n 2, 1) := by decide +kernel
theorem dX0_canGoOn_1 : decode cX0_canGoOn 1 = .ok (.iload_n 1, 1) := by decide +kernel
theorem dX0_canGoOn_2 : decode cX0_canGoOn 2 = .ok (.i2l, 1) := by decide +kernel
theorem dX0_canGoOn_3 : decode cX0_canGoOn 3 = .ok (.lcmp, 1) := by decide +kernel
theorem dX0_canGoOn_4 : decode cX0_canGoOn 4 = .ok (.ifCond .le 30, 3) := by decide +kernel
theorem dX0_canGoOn_7 : decode cX0_canGoOn 7 = .ok (.lload_n 2, 1) := by decide +kernel
theorem dX0_canGoOn_8 : decode cX0_canGoOn 8 = .ok (.aload_n 0, 1) := by decide +kernel
theorem dX0_canGoOn_9 : decode cX0_canGoOn 9 = .ok (.getfield 40, 3) := by decide +kernel
theorem dX0_canGoOn_12 : decode cX0_canGoOn 12 = .ok (.getfield 55, 3) := by decide +kernel
theorem dX0_canGoOn_15 : decode cX0_canGoOn 15 = .ok (.i2l, 1) := by decide +kernel
theorem dX0_canGoOn_16 : decode cX0_canGoOn 16 = .ok (.lcmp, 1) := by decide +kernel
theorem dX0_canGoOn_17 : decode cX0_canGoOn 17 = .ok (.ifCond .ge 17, 3) := by decide +kernel
theorem dX0_canGoOn_20 : decode cX0_canGoOn 20 = .ok (.aload_n 0, 1) := by decide +kernel
theorem dX0_canGoOn_21 : decode cX0_canGoOn 21 = .ok (.getfield 17, 3) := by decide +kernel
theorem dX0_canGoOn_24 : decode cX0_canGoOn 24 = .ok (.lload_n 2, 1) := by decide +kernel
theorem dX0_canGoOn_25 : decode cX0_canGoOn 25 = .ok (.l2i, 1) := by decide +kernel
theorem dX0_canGoOn_26 : decode cX0_canGoOn 26 = .ok (.baload, 1) := by decide +kernel
theorem dX0_canGoOn_27 : decode cX0_canGoOn 27 = .ok (.ifCond .ne 7, 3) := by decide +kernel
theorem dX0_canGoOn_30 : decode cX0_canGoOn 30 = .ok (.iconst 1, 1) := by decide +kernel
theorem dX0_canGoOn_31 : decode cX0_canGoOn 31 = .ok (.goto 4, 3) := by decide +kernel
theorem dX0_canGoOn_34 : decode cX0_canGoOn 34 = .ok (.iconst 0, 1) := by decide +kernel
theorem dX0_canGoOn_35 : decode cX0_canGoOn 35 = .ok (.ireturn, 1) := by decide +kernel
theorem dX0_comeTo_0 : decode cX0_comeTo 0 = .ok (.aload_n 0, 1) := by decide +kernel
theorem dX0_comeTo_1 : decode cX0_comeTo 1 = .ok (.getfield 11, 3) := by decide +kernel
theorem dX0_comeTo_4 : decode cX0_comeTo 4 = .ok (.iload_n 1, 1) := by decide +kernel
theorem dX0_comeTo_5 : decode cX0_comeTo 5 = .ok (.aaload, 1) := by decide +kernel
theorem dX0_comeTo_6 : decode cX0_comeTo 6 = .ok (.ifnonnull 16, 3) := by decide +kernel
theorem dX0_comeTo_9 : decode cX0_comeTo 9 = .ok (.aload_n 0, 1) := by decide +kernel
theorem dX0_comeTo_10 : decode cX0_comeTo 10 = .ok (.getfield 11, 3) := by decide +kernel
theorem dX0_comeTo_13 : decode cX0_comeTo 13 = .ok (.iload_n 1, 1) := by decide +kernel
theorem dX0_comeTo_14 : decode cX0_comeTo 14 = .ok (.new 9, 3) := by decide +kernel
theorem dX0_comeTo_17 : decode cX0_comeTo 17 = .ok (.dup, 1) := by decide +kernel
theorem dX0_comeTo_18 : decode cX0_comeTo 18 = .ok (.invokespecial 21, 3) := by decide +kernel
theorem dX0_comeTo_21 : decode cX0_comeTo 21 = .ok (.aastore, 1) := by decide +kernel
theorem dX0_comeTo_22 : decode cX0_comeTo 22 = .ok (.aload_n 0, 1) := by decide +kernel
theorem dX0_comeTo_23 : decode cX0_comeTo 23 = .ok (.getfield 11, 3) := by decide +kernel
theorem dX0_comeTo_26 : decode cX0_comeTo 26 = .ok (.iload_n 1, 1) := by decide +kernel
theorem dX0_comeTo_27 : decode cX0_comeTo 27 = .ok (.aaload, 1) := by decide +kernel
theorem dX0_comeTo_28 : decode cX0_comeTo 28 = .ok (.getfield 48, 3) := by decide +kernel
theorem dX0_comeTo_31 : decode cX0_comeTo 31 = .ok (.ifCond .eq 16, 3) := by decide +kernel
theorem dX0_comeTo_34 : decode cX0_comeTo 34 = .ok (.aload_n 0, 1) := by decide +kernel
theorem dX0_comeTo_35 : decode cX0_comeTo 35 = .ok (.getfield 11, 3) := by decide +kernel
theorem dX0_comeTo_38 : decode cX0_comeTo 38 = .ok (.iload_n 1, 1) := by decide +kernel
theorem dX0_comeTo_39 : decode cX0_comeTo 39 = .ok (.aaload, 1) := by decide +kernel
theorem dX0_comeTo_40 : decode cX0_comeTo 40 = .ok (.aload_n 2, 1) := by decide +kernel
theorem dX0_comeTo_41 : decode cX0_comeTo 41 = .ok (.invokevirtual 143, 3) := by decide +kernel
theorem dX0_comeTo_44 : decode cX0_comeTo 44 = .ok (.goto 13, 3) := by decide +kernel
theorem dX0_comeTo_47 : decode cX0_comeTo 47 = .ok (.aload_n 0, 1) := by decide +kernel
theorem dX0_comeTo_48 : decode cX0_comeTo 48 = .ok (.getfield 11, 3) := by decide +kernel
theorem dX0_comeTo_51 : decode cX0_comeTo 51 = .ok (.iload_n 1, 1) := by decide +kernel
theorem dX0_comeTo_52 : decode cX0_comeTo 52 = .ok (.aaload, 1) := by decide +kernel
theorem dX0_comeTo_53 : decode cX0_comeTo 53 = .ok (.aload_n 2, 1) := by decide +kernel
theorem dX0_comeTo_54 : decode cX0_comeTo 54 = .ok (.invokevirtual 66, 3) := by decide +kernel
theorem dX0_comeTo_57 : decode cX0_comeTo 57 = .ok (.return_, 1) := by decide +kernel
theorem dX0_goOnBothWays_0 : decode cX0_goOnBothWays 0 = .ok (.aload_n 0, 1) := by decide +kernel
theorem dX0_goOnBothWays_1 : decode cX0_goOnBothWays 1 = .ok (.getfield 90, 3) := by decide +kernel
theorem dX0_goOnBothWays_4 : decode cX0_goOnBothWays 4 = .ok (.ifCond .eq 15, 3) := by decide +kernel
theorem dX0_goOnBothWays_7 : decode cX0_goOnBothWays 7 = .ok (.aload_n 0, 1) := by decide +kernel
theorem dX0_goOnBothWays_8 : decode cX0_goOnBothWays 8 = .ok (.iload_n 1, 1) := by decide +kernel
theorem dX0_goOnBothWays_9 : decode cX0_goOnBothWays 9 = .ok (.aload_n 0, 1) := by decide +kernel
theorem dX0_goOnBothWays_10 : decode cX0_goOnBothWays 10 = .ok (.getfield 93, 3) := by decide +kernel
theorem dX0_goOnBothWays_13 : decode cX0_goOnBothWays 13 = .ok (.invokevirtual 132, 3) := by decide +kernel
theorem dX0_goOnBothWays_16 : decode cX0_goOnBothWays 16 = .ok (.ifCond .eq 22, 3) := by decide +kernel
theorem dX0_goOnBothWays_19 : decode cX0_goOnBothWays 19 = .ok (.aload_n 0, 1) := by decide +kernel
theorem dX0_goOnBothWays_20 : decode cX0_goOnBothWays 20 = .ok (.getfield 97, 3) := by decide +kernel
theorem dX0_goOnBothWays_23 : decode cX0_goOnBothWays 23 = .ok (.ifCond .eq 18, 3) := by decide +kernel
theorem dX0_goOnBothWays_26 : decode cX0_goOnBothWays 26 = .ok (.aload_n 0, 1) := by decide +kernel
theorem dX0_goOnBothWays_27 : decode cX0_goOnBothWays 27 = .ok (.iload_n 1, 1) := by decide +kernel
theorem dX0_goOnBothWays_28 : decode cX0_goOnBothWays 28 = .ok (.aload_n 0, 1) := by decide +kernel
theorem dX0_goOnBothWays_29 : decode cX0_goOnBothWays 29 = .ok (.getfield 136, 3) := by decide +kernel
theorem dX0_goOnBothWays_32 : decode cX0_goOnBothWays 32 = .ok (.invokevirtual 132, 3) := by decide +kernel
theorem dX0_goOnBothWays_35 : decode cX0_goOnBothWays 35 = .ok (.ifCond .ne 6, 3) := by decide +kernel
theorem dX0_goOnBothWays_38 : decode cX0_goOnBothWays 38 = .ok (.bipush 6, 2) := by decide +kernel
theorem dX0_goOnBothWays_40 : decode cX0_goOnBothWays 40 = .ok (.ireturn, 1) := by decide +kernel
theorem dX0_goOnBothWays_41 : decode cX0_goOnBothWays 41 = .ok (.aload_n 0, 1) := by decide +kernel
theorem dX0_goOnBothWays_42 : decode cX0_goOnBothWays 42 = .ok (.getfield 90, 3) := by decide +kernel
theorem dX0_goOnBothWays_45 : decode cX0_goOnBothWays 45 = .ok (.ifCond .eq 16, 3) := by decide +kernel
theorem dX0_goOnBothWays_48 : decode cX0_goOnBothWays 48 = .ok (.aload_n 0, 1) := by decide +kernel
theorem dX0_goOnBothWays_49 : decode cX0_goOnBothWays 49 = .ok (.aload_n 0, 1) := by decide +kernel
theorem dX0_goOnBothWays_50 : decode cX0_goOnBothWays 50 = .ok (.getfield 93, 3) := by decide +kernel
theorem dX0_goOnBothWays_53 : decode cX0_goOnBothWays 53 = .ok (.l2i, 1) := by decide +kernel
theorem dX0_goOnBothWays_54 : decode cX0_goOnBothWays 54 = .ok (.aload_n 0, 1) := by decide +kernel
theorem dX0_goOnBothWays_55 : decode cX0_goOnBothWays 55 = .ok (.getfield 22, 3) := by decide +kernel
theorem dX0_goOnBothWays_58 : decode cX0_goOnBothWays 58 = .ok (.invokevirtual 139, 3) := by decide +kernel
theorem dX0_goOnBothWays_61 : decode cX0_goOnBothWays 61 = .ok (.aload_n 0, 1) := by decide +kernel
theorem dX0_goOnBothWays_62 : decode cX0_goOnBothWays 62 = .ok (.getfield 97, 3) := by decide +kernel
theorem dX0_goOnBothWays_65 : decode cX0_goOnBothWays 65 = .ok (.ifCond .eq 16, 3) := by decide +kernel
theorem dX0_goOnBothWays_68 : decode cX0_goOnBothWays 68 = .ok (.aload_n 0, 1) := by decide +kernel
theorem dX0_goOnBothWays_69 : decode cX0_goOnBothWays 69 = .ok (.aload_n 0, 1) := by decide +kernel
theorem dX0_goOnBothWays_70 : decode cX0_goOnBothWays 70 = .ok (.getfield 136, 3) := by decide +kernel
theorem dX0_goOnBothWays_73 : decode cX0_goOnBothWays 73 = .ok (.l2i, 1) := by decide +kernel
theorem dX0_goOnBothWays_74 : decode cX0_goOnBothWays 74 = .ok (.aload_n 0, 1) := by decide +kernel
theorem dX0_goOnBothWays_75 : decode cX0_goOnBothWays 75 = .ok (.getfield 26, 3) := by decide +kernel
theorem dX0_goOnBothWays_78 : decode cX0_goOnBothWays 78 = .ok (.invokevirtual 139, 3) := by decide +kernel
theorem dX0_goOnBothWays_81 : decode cX0_goOnBothWays 81 = .ok (.iconst 0, 1) := by decide +kernel
theorem dX0_goOnBothWays_82 : decode cX0_goOnBothWays 82 = .ok (.ireturn, 1) := by decide +kernel
theorem dX0_follow_0 : decode cX0_follow 0 = .ok (.aload_n 0, 1) := by decide +kernel
theorem dX0_follow_1 : decode cX0_follow 1 = .ok (.invokevirtual 52, 3) := by decide +kernel
theorem dX0_follow_4 : decode cX0_follow 4 = .ok (.aload_n 0, 1) := by decide +kernel
theorem dX0_follow_5 : decode cX0_follow 5 = .ok (.getfield 40, 3) := by decide +kernel
theorem dX0_follow_8 : decode cX0_follow 8 = .ok (.getfield 55, 3) := by decide +kernel
theorem dX0_follow_11 : decode cX0_follow 11 = .ok (.ifCond .ne 11, 3) := by decide +kernel
theorem dX0_follow_14 : decode cX0_follow 14 = .ok (.aload_n 0, 1) := by decide +kernel
theorem dX0_follow_15 : decode cX0_follow 15 = .ok (.iconst 0, 1) := by decide +kernel
theorem dX0_follow_16 : decode cX0_follow 16 = .ok (.putfield 36, 3) := by decide +kernel
theorem dX0_follow_19 : decode cX0_follow 19 = .ok (.bipush 6, 2) := by decide +kernel
theorem dX0_follow_21 : decode cX0_follow 21 = .ok (.ireturn, 1) := by decide +kernel
theorem dX0_follow_22 : decode cX0_follow 22 = .ok (.aload_n 0, 1) := by decide +kernel
theorem dX0_follow_23 : decode cX0_follow 23 = .ok (.invokevirtual 60, 3) := by decide +kernel
theorem dX0_follow_26 : decode cX0_follow 26 = .ok (.aload_n 0, 1) := by decide +kernel
theorem dX0_follow_27 : decode cX0_follow 27 = .ok (.getfield 22, 3) := by decide +kernel
theorem dX0_follow_30 : decode cX0_follow 30 = .ok (.invokevirtual 63, 3) := by decide +kernel
theorem dX0_follow_33 : decode cX0_follow 33 = .ok (.aload_n 0, 1) := by decide +kernel
theorem dX0_follow_34 : decode cX0_follow 34 = .ok (.getfield 11, 3) := by decide +kernel
theorem dX0_follow_37 : decode cX0_follow 37 = .ok (.iconst 0, 1) := by decide +kernel
theorem dX0_follow_38 : decode cX0_follow 38 = .ok (.aload_n 0, 1) := by decide +kernel
theorem dX0_follow_39 : decode cX0_follow 39 = .ok (.getfield 11, 3) := by decide +kernel
theorem dX0_follow_42 : decode cX0_follow 42 = .ok (.iconst 0, 1) := by decide +kernel
theorem dX0_follow_43 : decode cX0_follow 43 = .ok (.aaload, 1) := by decide +kernel
theorem dX0_follow_44 : decode cX0_follow 44 = .ok (.ifnonnull 13, 3) := by decide +kernel
theorem dX0_follow_47 : decode cX0_follow 47 = .ok (.new 9, 3) := by decide +kernel
theorem dX0_follow_50 : decode cX0_follow 50 = .ok (.dup, 1) := by decide +kernel
theorem dX0_follow_51 : decode cX0_follow 51 = .ok (.invokespecial 21, 3) := by decide +kernel
theorem dX0_follow_54 : decode cX0_follow 54 = .ok (.goto 9, 3) := by decide +kernel
theorem dX0_follow_57 : decode cX0_follow 57 = .ok (.aload_n 0, 1) := by decide +kernel
theorem dX0_follow_58 : decode cX0_follow 58 = .ok (.getfield 11, 3) := by decide +kernel
theorem dX0_follow_61 : decode cX0_follow 61 = .ok (.iconst 0, 1) := by decide +kernel
theorem dX0_follow_62 : decode cX0_follow 62 = .ok (.aaload, 1) := by decide +kernel
theorem dX0_follow_63 : decode cX0_follow 63 = .ok (.aastore, 1) := by decide +kernel
theorem dX0_follow_64 : decode cX0_follow 64 = .ok (.aload_n 0, 1) := by decide +kernel
theorem dX0_follow_65 : decode cX0_follow 65 = .ok (.getfield 11, 3) := by decide +kernel
theorem dX0_follow_68 : decode cX0_follow 68 = .ok (.iconst 0, 1) := by decide +kernel
theorem dX0_follow_69 : decode cX0_follow 69 = .ok (.aaload, 1) := by decide +kernel
theorem dX0_follow_70 : decode cX0_follow 70 = .ok (.aload_n 0, 1) := by decide +kernel
theorem dX0_follow_71 : decode cX0_follow 71 = .ok (.getfield 22, 3) := by decide +kernel
theorem dX0_follow_74 : decode cX0_follow 74 = .ok (.invokevirtual 66, 3) := by decide +kernel
theorem dX0_follow_77 : decode cX0_follow 77 = .ok (.iconst 0, 1) := by decide +kernel
theorem dX0_follow_78 : decode cX0_follow 78 = .ok (.istore_n 1, 1) := by decide +kernel
theorem dX0_follow_79 : decode cX0_follow 79 = .ok (.iload_n 1, 1) := by decide +kernel
theorem dX0_follow_80 : decode cX0_follow 80 = .ok (.aload_n 0, 1) := by decide +kernel
theorem dX0_follow_81 : decode cX0_follow 81 = .ok (.getfield 40, 3) := by decide +kernel
theorem dX0_follow_84 : decode cX0_follow 84 = .ok (.getfield 55, 3) := by decide +kernel
theorem dX0_follow_87 : decode cX0_follow 87 = .ok (.if_icmp .ge 55, 3) := by decide +kernel
theorem dX0_follow_90 : decode cX0_follow 90 = .ok (.aload_n 0, 1) := by decide +kernel
theorem dX0_follow_91 : decode cX0_follow 91 = .ok (.iload_n 1, 1) := by decide +kernel
theorem dX0_follow_92 : decode cX0_follow 92 = .ok (.invokevirtual 70, 3) := by decide +kernel
theorem dX0_follow_95 : decode cX0_follow 95 = .ok (.astore_n 2, 1) := by decide +kernel
theorem dX0_follow_96 : decode cX0_follow 96 = .ok (.aload_n 2, 1) := by decide +kernel
theorem dX0_follow_97 : decode cX0_follow 97 = .ok (.ifnonnull 7, 3) := by decide +kernel
theorem dX0_follow_100 : decode cX0_follow 100 = .ok (.iconst 0, 1) := by decide +kernel
theorem dX0_follow_101 : decode cX0_follow 101 = .ok (.goto 9, 3) := by decide +kernel
theorem dX0_follow_104 : decode cX0_follow 104 = .ok (.aload_n 0, 1) := by decide +kernel
theorem dX0_follow_105 : decode cX0_follow 105 = .ok (.iload_n 1, 1) := by decide +kernel
theorem dX0_follow_106 : decode cX0_follow 106 = .ok (.aload_n 2, 1) := by decide +kernel
theorem dX0_follow_107 : decode cX0_follow 107 = .ok (.invokevirtual 74, 3) := by decide +kernel
theorem dX0_follow_110 : decode cX0_follow 110 = .ok (.istore_n 3, 1) := by decide +kernel
theorem dX0_follow_111 : decode cX0_follow 111 = .ok (.iload_n 3, 1) := by decide +kernel
theorem dX0_follow_112 : decode cX0_follow 112 = .ok (.ifCond .ne 13, 3) := by decide +kernel
theorem dX0_follow_115 : decode cX0_follow 115 = .ok (.aload_n 2, 1) := by decide +kernel
theorem dX0_follow_116 : decode cX0_follow 116 = .ok (.ifnull 9, 3) := by decide +kernel
theorem dX0_follow_119 : decode cX0_follow 119 = .ok (.aload_n 0, 1) := by decide +kernel
theorem dX0_follow_120 : decode cX0_follow 120 = .ok (.iload_n 1, 1) := by decide +kernel
theorem dX0_follow_121 : decode cX0_follow 121 = .ok (.invokevirtual 78, 3) := by decide +kernel
theorem dX0_follow_124 : decode cX0_follow 124 = .ok (.istore_n 3, 1) := by decide +kernel
theorem dX0_follow_125 : decode cX0_follow 125 = .ok (.iload_n 3, 1) := by decide +kernel
theorem dX0_follow_126 : decode cX0_follow 126 = .ok (.ifCond .eq 10, 3) := by decide +kernel
theorem dX0_follow_129 : decode cX0_follow 129 = .ok (.aload_n 0, 1) := by decide +kernel
theorem dX0_follow_130 : decode cX0_follow 130 = .ok (.iload_n 1, 1) := by decide +kernel
theorem dX0_follow_131 : decode cX0_follow 131 = .ok (.putfield 36, 3) := by decide +kernel
theorem dX0_follow_134 : decode cX0_follow 134 = .ok (.iload_n 3, 1) := by decide +kernel
theorem dX0_follow_135 : decode cX0_follow 135 = .ok (.ireturn, 1) := by decide +kernel
theorem dX0_follow_136 : decode cX0_follow 136 = .ok (.iinc 1 1, 3) := by decide +kernel
theorem dX0_follow_139 : decode cX0_follow 139 = .ok (.goto (-60), 3) := by decide +kernel
theorem dX0_follow_142 : decode cX0_follow 142 = .ok (.iconst 0, 1) := by decide +kernel
theorem dX0_follow_143 : decode cX0_follow 143 = .ok (.ireturn, 1) := by decide +kernel
-- JudgedCode$Judge.judgeBranch
def f_X0_judgeBranch_170 (S : sh) (os0 : Nat) (xs1 : Int32) (xs2 : Int32) (D : dt) : Option (Int32 × dt) := cq (f_X0_settleBoth S os0 xs1 xs2 D) fun _ D169 => some ((0 : Int32), D169)
def f_X0_judgeBranch_281 (S : sh) (os0 : Nat) (xs1 : Int32) (xs2 : Int32) (xs3 : Int64) (D : dt) : Option (Int32 × dt) := cq (f_X0_narrowBoth S os0 xs1 xs2 xs3 D) fun _ D171 => some ((0 : Int32), D171)
def f_X0_judgeBranch_250 (S : sh) (o0 : Nat) (x1 : Int32) (x2 : Int32) (x3 : Int32) (x4 : Int32) (x5 : Int32) (D : dt) : Option (Int32 × dt) := if x5 = 0 then (rq (gR D o0 0) fun o173 => rq (gR D o173 4) fun o177 => ix x1 (sA S o177) <| f_X0_judgeBranch_281 S o0 x3 x2 ((gI D o177 x1.toNatClampNeg).toInt64) D) else (rq (gR D o0 4) fun o182 => rq (gR D o182 2) fun o186 => ix x4 (sA S o186) <| f_X0_judgeBranch_281 S o0 x3 x2 (gL D o186 x4.toNatClampNeg) D)
def f_X0_judgeBranch_233 (S : sh) (o0 : Nat) (x1 : Int32) (x2 : Int32) (x3 : Int32) (x4 : Int32) (x5 : Int32) (D : dt) : Option (Int32 × dt) := if x5 = 0 then (f_X0_judgeBranch_250 S o0 x1 x2 x3 x4 x5 D) else (rq (gR D o0 4) fun o192 => pq (f_X5_isOne S D o192 x4) fun r197 => if r197 = 0 then (rq (gR D o0 4) fun o199 => pq (f_X5_isOne S D o199 x3) fun r204 => if r204 = 0 then (some ((0 : Int32), D)) else (pq (f_X0_changedAbout x2) fun r207 => rq (gR D o0 4) fun o208 => rq (gR D o208 2) fun o212 => ix x3 (sA S o212) <| cq (f_X0_narrowBoth S o0 x4 r207 (gL D o212 x3.toNatClampNeg) D) fun _ D218 => some ((0 : Int32), D218))) else (f_X0_judgeBranch_250 S o0 x1 x2 x3 x4 x5 D))
def f_X0_judgeBranch_205 (S : sh) (o0 : Nat) (x1 : Int32) (x2 : Int32) (x3 : Int32) (x4 : Int32) (x5 : Int32) (x6 : Int32) (D : dt) : Option (Int32 × dt) := cq (f_X0_goBothWays S o0 x1 D) fun _ D220 => rq (gR D220 o0 0) fun o221 => pq (f_X4_isWide S D220 o221 x1) fun r226 => if r226 = 0 then (some ((0 : Int32), D220)) else (if x6 = 0 then (pq (f_X0_comparesUnsigned x2) fun r230 => if r230 = 0 then (some ((0 : Int32), D220)) else (f_X0_judgeBranch_233 S o0 x1 x2 x3 x4 x5 D220)) else (f_X0_judgeBranch_233 S o0 x1 x2 x3 x4 x5 D220))
def f_X0_judgeBranch_175 (S : sh) (o0 : Nat) (x1 : Int32) (x2 : Int32) (x3 : Int32) (x4 : Int32) (x5 : Int32) (x6 : Int32) (D : dt) : Option (Int32 × dt) := rq (gR D o0 4) fun o232 => pq (f_X5_isNumber S D o232 x3) fun r237 => if r237 = 0 then (some ((3 : Int32), D)) else (if x5 = 0 then (f_X0_judgeBranch_205 S o0 x1 x2 x3 x4 x5 x6 D) else (rq (gR D o0 4) fun o240 => pq (f_X5_isNumber S D o240 x4) fun r245 => if r245 = 0 then (some ((3 : Int32), D)) else (f_X0_judgeBranch_205 S o0 x1 x2 x3 x4 x5 x6 D)))
def f_X0_judgeBranch_109 (S : sh) (o0 : Nat) (x1 : Int32) (x2 : Int32) (x3 : Int32) (x4 : Int32) (x5 : Int32) (x6 : Int32) (xs0 : Int32) (D : dt) : Option (Int32 × dt) := rq (gR D o0 4) fun o247 => pq (f_X5_kind S D o247 x3) fun r252 => if r252 = (6 : Int32) then (if x6 = 0 then (f_X0_judgeBranch_175 S o0 x1 x2 x3 x4 x5 x6 D) else (if xs0 = 0 then (f_X0_judgeBranch_175 S o0 x1 x2 x3 x4 x5 x6 D) else (rq (gR D o0 0) fun o256 => pq (f_X4_isWide S D o256 x1) fun r261 => if r261 = 0 then (f_X0_judgeBranch_175 S o0 x1 x2 x3 x4 x5 x6 D) else (cq (f_X0_goBothWays S o0 x1 D) fun _ D264 => rq (gR D264 o0 4) fun o265 => rq (gR D264 o265 1) fun o269 => ix x3 (sA S o269) <| if x2 = (1 : Int32) then (f_X0_judgeBranch_170 S o0 (gI D264 o269 x3.toNatClampNeg) (1 : Int32) D264) else (f_X0_judgeBranch_170 S o0 (gI D264 o269 x3.toNatClampNeg) (0 : Int32) D264))))) else (f_X0_judgeBranch_175 S o0 x1 x2 x3 x4 x5 x6 D)
def f_X0_judgeBranch_108 (S : sh) (o0 : Nat) (x1 : Int32) (x2 : Int32) (x3 : Int32) (x4 : Int32) (x5 : Int32) (x6 : Int32) (D : dt) : Option (Int32 × dt) := f_X0_judgeBranch_109 S o0 x1 x2 x3 x4 x5 x6 (0 : Int32) D
def f_X0_judgeBranch_85 (S : sh) (o0 : Nat) (x1 : Int32) (x2 : Int32) (x3 : Int32) (x4 : Int32) (x5 : Int32) (xs0 : Int32) (D : dt) : Option (Int32 × dt) := if x5 = 0 then (rq (gR D o0 0) fun o276 => rq (gR D o276 4) fun o280 => ix x1 (sA S o280) <| if (gI D o280 x1.toNatClampNeg) = 0 then (f_X0_judgeBranch_109 S o0 x1 x2 x3 x4 x5 xs0 (1 : Int32) D) else (f_X0_judgeBranch_108 S o0 x1 x2 x3 x4 x5 xs0 D)) else (f_X0_judgeBranch_108 S o0 x1 x2 x3 x4 x5 xs0 D)
def f_X0_judgeBranch_80 (S : sh) (o0 : Nat) (x1 : Int32) (x2 : Int32) (x3 : Int32) (x4 : Int32) (x5 : Int32) (D : dt) : Option (Int32 × dt) := f_X0_judgeBranch_85 S o0 x1 x2 x3 x4 x5 (1 : Int32) D
def f_X0_judgeBranch_70 (S : sh) (o0 : Nat) (x1 : Int32) (x2 : Int32) (x3 : Int32) (x4 : Int32) (x5 : Int32) (D : dt) : Option (Int32 × dt) := if x2 = (1 : Int32) then (f_X0_judgeBranch_80 S o0 x1 x2 x3 x4 x5 D) else (if x2 = (5 : Int32) then (f_X0_judgeBranch_80 S o0 x1 x2 x3 x4 x5 D) else (f_X0_judgeBranch_85 S o0 x1 x2 x3 x4 x5 (0 : Int32) D))
def f_X0_judgeBranch (S : sh) (o0 : Nat) (x1 : Int32) (D : dt) : Option (Int32 × dt) := rq (gR D o0 0) fun o288 => pq (f_X4_code S D o288 x1) fun r293 => rq (gR D o0 0) fun o294 => rq (gR D o294 1) fun o298 => ix x1 (sA S o298) <| nm (gI D o298 x1.toNatClampNeg) fun y303 => rq (gR D o0 0) fun o304 => rq (gR D o304 2) fun o308 => ix x1 (sA S o308) <| nm (gI D o308 x1.toNatClampNeg) fun y313 => rq (gR D o0 0) fun o314 => pq (f_X4_byRegister S D o314 x1) fun r319 => rq (gR D o0 4) fun o320 => pq (f_X5_isNone S D o320 y303) fun r325 => if r325 = 0 then (if r319 = 0 then (f_X0_judgeBranch_70 S o0 x1 r293 y303 y313 r319 D) else (rq (gR D o0 4) fun o328 => pq (f_X5_isNone S D o328 y313) fun r333 => if r333 = 0 then (f_X0_judgeBranch_70 S o0 x1 r293 y303 y313 r319 D) else (some ((2 : Int32), D)))) else (some ((2 : Int32), D))
-- JudgedCode$Judge.judgeJump
def f_X0_judgeJump (S : sh) (o0 : Nat) (x1 : Int32) (D : dt) : Option (Int32 × dt) := rq (gR D o0 0) fun o27 => pq (f_X4_code S D o27 x1) fun r32 => if r32 = (9 : Int32) then (nm (pI D o0 8 (0 : Int32)) fun D45 => rq (gR D45 o0 4) fun o46 => pq (f_X5_isNumber S D45 o46 (0 : Int32)) fun r51 => if r51 = 0 then (some ((5 : Int32), D45)) else (some ((0 : Int32), D45))) else (if r32 = 0 then (rq (gR D o0 0) fun o38 => pq (f_X4_distance S D o38 x1) fun r43 => nm (pL D o0 9 ((x1.toInt64 + (1 : Int64)) + r43.toInt64)) fun D44 => some ((0 : Int32), D44)) else (cq (f_X0_judgeBranch S o0 x1 D) fun r36 D37 => some (r36, D37)))
-- JudgedCode$Judge.judgeSlot
def f_X0_judgeSlot_147 (S : sh) (o0 : Nat) (x1 : Int32) (D : dt) : Option (Int32 × dt) := rq (gR D o0 0) fun o81 => pq (f_X4_code S D o81 x1) fun r86 => if r86 = (8 : Int32) then (rq (gR D o0 0) fun o91 => rq (gR D o91 4) fun o95 => ix x1 (sA S o95) <| cq (f_X0_judgeCall S o0 x1 (gI D o95 x1.toNatClampNeg) D) fun r101 D102 => some (r101, D102)) else (cq (f_X0_judgeJump S o0 x1 D) fun r89 D90 => some (r89, D90))
def f_X0_judgeSlot_141 (S : sh) (o0 : Nat) (x1 : Int32) (D : dt) : Option (Int32 × dt) := cq (f_X0_judgeArithmetic S o0 x1 D) fun r104 D105 => some (r104, D105)
def f_X0_judgeSlot (S : sh) (o0 : Nat) (x1 : Int32) (o2 : Nat) (D : dt) : Option (Int32 × dt) := rq (gR D o0 0) fun o106 => pq (f_X4_isBad S D o106 x1) fun r111 => if r111 = 0 then (rq (gR D o0 4) fun o113 => cq (f_X5_copyFrom S o113 o2 D) fun _ D118 => nm (pI D118 o0 8 (1 : Int32)) fun D119 => nm (pL D119 o0 9 ((x1 + (1 : Int32)).toInt64)) fun D120 => nm (pI D120 o0 10 (0 : Int32)) fun D121 => rq (gR D121 o0 0) fun o122 => rq (gR D121 o122 0) fun o126 => ix x1 (sA S o126) <| if ((gI D121 o126 x1.toNatClampNeg) &&& (7 : Int32)) = 0 then (cq (f_X0_judgePair S o0 x1 D121) fun r133 D134 => some (r133, D134)) else if ((gI D121 o126 x1.toNatClampNeg) &&& (7 : Int32)) = 1 then (cq (f_X0_judgeLoad S o0 x1 D121) fun r137 D138 => some (r137, D138)) else if ((gI D121 o126 x1.toNatClampNeg) &&& (7 : Int32)) = 2 then (cq (f_X0_judgePut S o0 x1 (0 : Int32) D121) fun r141 D142 => some (r141, D142)) else if ((gI D121 o126 x1.toNatClampNeg) &&& (7 : Int32)) = 3 then (rq (gR D121 o0 0) fun o144 => pq (f_X4_isPlainPut S D121 o144 x1) fun r149 => if r149 = 0 then (cq (f_X0_judgeChange S o0 x1 D121) fun r152 D153 => some (r152, D153)) else (cq (f_X0_judgePut S o0 x1 (1 : Int32) D121) fun r155 D156 => some (r155, D156))) else if ((gI D121 o126 x1.toNatClampNeg) &&& (7 : Int32)) = 4 then (f_X0_judgeSlot_141 S o0 x1 D121) else if ((gI D121 o126 x1.toNatClampNeg) &&& (7 : Int32)) = 5 then (f_X0_judgeSlot_147 S o0 x1 D121) else if ((gI D121 o126 x1.toNatClampNeg) &&& (7 : Int32)) = 6 then (f_X0_judgeSlot_147 S o0 x1 D121) else if ((gI D121 o126 x1.toNatClampNeg) &&& (7 : Int32)) = 7 then (f_X0_judgeSlot_141 S o0 x1 D121) else (f_X0_judgeSlot_147 S o0 x1 D121)) else (some ((1 : Int32), D))
-- JudgedCode$Judge.canGoOn
def f_X0_canGoOn (S : sh) (D : dt) (o0 : Nat) (x1 : Int32) (x2 : Int64) : Option Int32 := if (lg_cmp x2 x1.toInt64) ≤ 0 then (some (0 : Int32)) else (rq (gR D o0 0) fun o14 => if 0 ≤ (lg_cmp x2 ((gI D o14 5).toInt64)) then (some (0 : Int32)) else (rq (gR D o0 3) fun o19 => ix x2.toInt32 (sA S o19) <| if (gI D o19 x2.toInt32.toNatClampNeg) = 0 then (some (1 : Int32)) else (some (0 : Int32))))
-- JudgedCode$Judge.comeTo
def f_X0_comeTo_22 (o0 : Nat) (x1 : Int32) (o2 : Nat) (S : sh) (D : dt) : Option (Unit × sh × dt) := rq (gR D o0 2) fun o68 => ix x1 (sA S o68) <| oq (gR D o68 x1.toNatClampNeg) (none) fun o73 => if (gI D o73 0) = 0 then (rq (gR D o0 2) fun o78 => ix x1 (sA S o78) <| oq (gR D o78 x1.toNatClampNeg) (none) fun o83 => cq (f_X5_copyFrom S o83 o2 D) fun _ D88 => some ((), S, D88)) else (rq (gR D o0 2) fun o89 => ix x1 (sA S o89) <| oq (gR D o89 x1.toNatClampNeg) (none) fun o94 => cq (f_X5_joinWith S o94 o2 D) fun _ D99 => some ((), S, D99))
def f_X0_comeTo_21 (o0 : Nat) (x1 : Int32) (o2 : Nat) (os0 : Nat) (xs1 : Int32) (os2 : Nat) (S : sh) (D : dt) : Option (Unit × sh × dt) := ix xs1 (sA S os0) <| nm (pR D os0 xs1.toNatClampNeg (some os2)) fun D101 => f_X0_comeTo_22 o0 x1 o2 S D101
def f_X0_comeTo_17 (o0 : Nat) (x1 : Int32) (o2 : Nat) (os0 : Nat) (xs1 : Int32) (os2 : Nat) (S : sh) (D : dt) : Option (Unit × sh × dt) := c3 (f_X5_init os2 S D) fun _ S105 D104 => f_X0_comeTo_21 o0 x1 o2 os0 xs1 os2 S105 D104
def f_X0_comeTo (o0 : Nat) (x1 : Int32) (o2 : Nat) (S : sh) (D : dt) : Option (Unit × sh × dt) := rq (gR D o0 2) fun o114 => ix x1 (sA S o114) <| oq (gR D o114 x1.toNatClampNeg) (rq (gR D o0 2) fun o123 => f_X0_comeTo_17 o0 x1 o2 o123 x1 (sN S) (aS S 4 0 6) (aD S D)) fun o119 => f_X0_comeTo_22 o0 x1 o2 S D
-- JudgedCode$Judge.goOnBothWays
def f_X0_goOnBothWays_81 (S : sh) (D : dt) : Option (Int32 × sh × dt) := some ((0 : Int32), S, D)
def f_X0_goOnBothWays_61 (o0 : Nat) (S : sh) (D : dt) : Option (Int32 × sh × dt) := if (gI D o0 10) = 0 then (f_X0_goOnBothWays_81 S D) else (rq (gR D o0 5) fun o43 => c3 (f_X0_comeTo o0 ((gL D o0 11).toInt32) o43 S D) fun _ S49 D48 => f_X0_goOnBothWays_81 S49 D48)
def f_X0_goOnBothWays_41 (o0 : Nat) (S : sh) (D : dt) : Option (Int32 × sh × dt) := if (gI D o0 8) = 0 then (f_X0_goOnBothWays_61 o0 S D) else (rq (gR D o0 4) fun o57 => c3 (f_X0_comeTo o0 ((gL D o0 9).toInt32) o57 S D) fun _ S63 D62 => f_X0_goOnBothWays_61 o0 S63 D62)
def f_X0_goOnBothWays_19 (o0 : Nat) (x1 : Int32) (S : sh) (D : dt) : Option (Int32 × sh × dt) := if (gI D o0 10) = 0 then (f_X0_goOnBothWays_41 o0 S D) else (pq (f_X0_canGoOn S D o0 x1 (gL D o0 11)) fun r72 => if r72 = 0 then (some ((6 : Int32), S, D)) else (f_X0_goOnBothWays_41 o0 S D))
def f_X0_goOnBothWays (o0 : Nat) (x1 : Int32) (S : sh) (D : dt) : Option (Int32 × sh × dt) := if (gI D o0 8) = 0 then (f_X0_goOnBothWays_19 o0 x1 S D) else (pq (f_X0_canGoOn S D o0 x1 (gL D o0 9)) fun r78 => if r78 = 0 then (some ((6 : Int32), S, D)) else (f_X0_goOnBothWays_19 o0 x1 S D))
-- JudgedCode$Judge.follow
def f_X0_follow_125 (k79 : Nat → Int32 → sh → dt → Option (Int32 × sh × dt)) (o0 : Nat) (x1 : Int32) (x3 : Int32) (S : sh) (D : dt) : Option (Int32 × sh × dt) := if x3 = 0 then (nm (x1 + 1) fun y139 => k79 o0 y139 S D) else (nm (pI D o0 7 x1) fun D141 => some (x3, S, D141))
def f_X0_follow_124 (k79 : Nat → Int32 → sh → dt → Option (Int32 × sh × dt)) (o0 : Nat) (x1 : Int32) (xs0 : Int32) (S : sh) (D : dt) : Option (Int32 × sh × dt) := f_X0_follow_125 k79 o0 x1 xs0 S D
def f_X0_follow_110 (k79 : Nat → Int32 → sh → dt → Option (Int32 × sh × dt)) (o0 : Nat) (x1 : Int32) (o2 : Option Nat) (xs0 : Int32) (S : sh) (D : dt) : Option (Int32 × sh × dt) := oq o2 (if xs0 = 0 then (f_X0_follow_125 k79 o0 x1 xs0 S D) else (f_X0_follow_125 k79 o0 x1 xs0 S D)) fun o2 => if xs0 = 0 then (c3 (f_X0_goOnBothWays o0 x1 S D) fun r149 S151 D150 => f_X0_follow_124 k79 o0 x1 r149 S151 D150) else (f_X0_follow_125 k79 o0 x1 xs0 S D)
def f_X0_follow_79 : Nat → Nat → Int32 → sh → dt → Option (Int32 × sh × dt)
  | 0, _, _, _, _ => none
  | n + 1, o0, x1, S, D => rq (gR D o0 0) fun o158 => if (gI D o158 5) ≤ x1 then (some ((0 : Int32), S, D)) else (pq (f_X0_sceneAt S D o0 x1) fun r164 => oq r164 (f_X0_follow_110 (f_X0_follow_79 n) o0 x1 none (0 : Int32) S D) fun o165 => cq (f_X0_judgeSlot S o0 x1 o165 D) fun r169 D170 => f_X0_follow_110 (f_X0_follow_79 n) o0 x1 (some o165) r169 S D170)
def f_X0_follow_63 (o0 : Nat) (os0 : Nat) (xs1 : Int32) (os2 : Option Nat) (S : sh) (D : dt) : Option (Int32 × sh × dt) := oq os2 (ix xs1 (sA S os0) <| nm (pR D os0 xs1.toNatClampNeg none) fun D173 => rq (gR D173 o0 2) fun o174 => ix (0 : Int32) (sA S o174) <| oq (gR D173 o174 (0 : Int32).toNatClampNeg) (rq (gR D173 o0 4) fun o183 => none) fun o179 => rq (gR D173 o0 4) fun o187 => cq (f_X5_copyFrom S o179 o187 D173) fun _ D192 => nm ((0 : Int32)) fun y193 => f_X0_follow_79 LF o0 y193 S D192) fun os2 => ix xs1 (sA S os0) <| nm (pR D os0 xs1.toNatClampNeg (some os2)) fun D196 => rq (gR D196 o0 2) fun o197 => ix (0 : Int32) (sA S o197) <| oq (gR D196 o197 (0 : Int32).toNatClampNeg) (rq (gR D196 o0 4) fun o206 => none) fun o202 => rq (gR D196 o0 4) fun o210 => cq (f_X5_copyFrom S o202 o210 D196) fun _ D215 => nm ((0 : Int32)) fun y216 => f_X0_follow_79 LF o0 y216 S D215
def f_X0_follow_54 (o0 : Nat) (os0 : Nat) (xs1 : Int32) (os2 : Nat) (S : sh) (D : dt) : Option (Int32 × sh × dt) := f_X0_follow_63 o0 os0 xs1 (some os2) S D
def f_X0_follow_50 (o0 : Nat) (os0 : Nat) (xs1 : Int32) (os2 : Nat) (S : sh) (D : dt) : Option (Int32 × sh × dt) := c3 (f_X5_init os2 S D) fun _ S221 D220 => f_X0_follow_54 o0 os0 xs1 os2 S221 D220
def f_X0_follow (o0 : Nat) (S : sh) (D : dt) : Option (Int32 × sh × dt) := cq (f_X0_forgetScenes S o0 D) fun _ D230 => rq (gR D230 o0 0) fun o231 => if (gI D230 o231 5) = 0 then (nm (pI D230 o0 7 (0 : Int32)) fun D274 => some ((6 : Int32), S, D274)) else (cq (f_X0_markSeconds S o0 D230) fun _ D237 => rq (gR D237 o0 4) fun o238 => cq (f_X5_begin S o238 D237) fun _ D243 => rq (gR D243 o0 2) fun o244 => rq (gR D243 o0 2) fun o248 => ix (0 : Int32) (sA S o248) <| oq (gR D243 o248 (0 : Int32).toNatClampNeg) (f_X0_follow_50 o0 o244 (0 : Int32) (sN S) (aS S 4 0 6) (aD S D243)) fun o253 => rq (gR D243 o0 2) fun o263 => ix (0 : Int32) (sA S o263) <| oq (gR D243 o263 (0 : Int32).toNatClampNeg) (f_X0_follow_63 o0 o244 (0 : Int32) none S D243) fun o268 => f_X0_follow_63 o0 o244 (0 : Int32) (some o268) S D243)
theorem mk_X0_judgeBranch : MkV yX0_judgeBranch RX0 cX0_judgeBranch 8 (some .int) 1 := ⟨⟨lk_790, lk_35, lk_118, (tb_in (i := 791) (by decide +kernel) (by decide +kernel))⟩, by decide +kernel⟩
theorem mk_X0_judgeJump : MkV yX0_judgeJump RX0 cX0_judgeJump 3 (some .int) 1 := ⟨⟨lk_782, lk_34, lk_118, (tb_in (i := 783) (by decide +kernel) (by decide +kernel))⟩, by decide +kernel⟩
theorem mk_X0_judgeSlot : MkV yX0_judgeSlot RX0 cX0_judgeSlot 3 (some .int) 2 := ⟨⟨lk_496, lk_2, lk_118, (tb_in (i := 497) (by decide +kernel) (by decide +kernel))⟩, by decide +kernel⟩
theorem mk_X0_canGoOn : MkV yX0_canGoOn RX0 cX0_canGoOn 4 (some .boolean) 2 := ⟨⟨lk_837, lk_41, lk_118, (tb_in (i := 838) (by decide +kernel) (by decide +kernel))⟩, by decide +kernel⟩
theorem mk_X0_comeTo : MkV yX0_comeTo RX0 cX0_comeTo 3 none 2 := ⟨⟨lk_841, lk_42, lk_118, (tb_in (i := 842) (by decide +kernel) (by decide +kernel))⟩, by decide +kernel⟩
theorem mk_X0_goOnBothWays : MkV yX0_goOnBothWays RX0 cX0_goOnBothWays 2 (some .int) 1 := ⟨⟨lk_833, lk_40, lk_118, (tb_in (i := 834) (by decide +kernel) (by decide +kernel))⟩, by decide +kernel⟩
theorem mk_X0_follow : MkV yX0_follow RX0 cX0_follow 4 (some .int) 0 := ⟨⟨lk_458, lk_459, lk_118, (tb_in (i := 460) (by decide +kernel) (by decide +kernel))⟩, by decide +kernel⟩
section
variable {p : Program} {l : Launch} {e : Env} {R : Room} {s : State} {m : MethodId} {args : Array Value} {below : List Frame} {meth : Method} {c : Code} {H : Heap} {locs : List Loc} {G : va_G} {cA : Nat → ClassId} {S : sh} {D : dt} {ad : Nat → Nat} {A : Nat → Prop}
set_option maxHeartbeats 4000000 in
set_option maxRecDepth 100000 in
theorem w_X0_judgeBranch_170 {r : Int32} {D' : dt} (hC : Cx RX0 cX0_judgeBranch 8 (some .int) p s m args meth c) (hR : 3 ≤ R.frames ∧ 73 ≤ R.locals) : ∀ (os0 as0 : Nat) (xs1 : Int32) (xs2 : Int32) (D : dt) (H : Heap) (locs : List Loc) (ls : Array Slot), Is S ad os0 as0 0 → Wd G cA S D ad A s H locs → lv_has ls 8 [] → f_X0_judgeBranch_170 S os0 xs1 xs2 D = some (r, D') → W p l e R s m args below meth c H locs 0 0 (MQ below (Qn (some (.int r)) True (wpost G cA S D' ad A) A) args s 0 0 A) (F0 m 170 ls [.int xs2, .int xs1, .ref as0]) := by
  obtain ⟨hx, hb, -⟩ := id hC
  intro os0 as0 xs1 xs2 D H locs ls his0 hw hl h
  unfold f_X0_judgeBranch_170 at h
  obtain ⟨_, D169, hq168, h⟩ := cq_i h
  refine r_cV (st' := []) [.int xs1, .int xs2] [] hC hw kc_0 his0 (k_X0_settleBoth _ his0 hq168) mk_X0_settleBoth lk_796 ⟨Nat.le_trans (by decide) hR.1, Nat.le_trans (by decide) hR.2⟩ ⟨Nat.zero_le _, Nat.zero_le _⟩ rfl hl.1 rfl rfl (Nat.le_of_ble_eq_true rfl) dX0_judgeBranch_170 (fun hP H locs hw => ?_)
  refine lv_iconst (v := 0) hx hb dX0_judgeBranch_173 (by decide) ?_
  cases h
  exact r_iret hC hw dX0_judgeBranch_174
set_option maxHeartbeats 4000000 in
set_option maxRecDepth 100000 in
theorem w_X0_judgeBranch_281 {r : Int32} {D' : dt} (hC : Cx RX0 cX0_judgeBranch 8 (some .int) p s m args meth c) (hR : 3 ≤ R.frames ∧ 73 ≤ R.locals) : ∀ (os0 as0 : Nat) (xs1 : Int32) (xs2 : Int32) (xs3 : Int64) (D : dt) (H : Heap) (locs : List Loc) (ls : Array Slot), Is S ad os0 as0 0 → Wd G cA S D ad A s H locs → lv_has ls 8 [] → f_X0_judgeBranch_281 S os0 xs1 xs2 xs3 D = some (r, D') → W p l e R s m args below meth c H locs 0 0 (MQ below (Qn (some (.int r)) True (wpost G cA S D' ad A) A) args s 0 0 A) (F0 m 281 ls [.long xs3, .int xs2, .int xs1, .ref as0]) := by
  obtain ⟨hx, hb, -⟩ := id hC
  intro os0 as0 xs1 xs2 xs3 D H locs ls his0 hw hl h
  unfold f_X0_judgeBranch_281 at h
  obtain ⟨_, D171, hq170, h⟩ := cq_i h
  refine r_cV (st' := []) [.int xs1, .int xs2, .long xs3] [] hC hw kc_0 his0 (k_X0_narrowBoth _ his0 hq170) mk_X0_narrowBoth lk_813 ⟨Nat.le_trans (by decide) hR.1, Nat.le_trans (by decide) hR.2⟩ ⟨Nat.zero_le _, Nat.zero_le _⟩ rfl hl.1 rfl rfl (Nat.le_of_ble_eq_true rfl) dX0_judgeBranch_281 (fun hP H locs hw => ?_)
  refine lv_goto (tgt := 317) hx hb dX0_judgeBranch_284 (by decide) ?_
  refine lv_iconst (v := 0) hx hb dX0_judgeBranch_317 (by decide) ?_
  cases h
  exact r_iret hC hw dX0_judgeBranch_318
set_option maxHeartbeats 4000000 in
set_option maxRecDepth 100000 in
theorem w_X0_judgeBranch_250 {r : Int32} {D' : dt} (hC : Cx RX0 cX0_judgeBranch 8 (some .int) p s m args meth c) (hR : 3 ≤ R.frames ∧ 73 ≤ R.locals) : ∀ (o0 a0 : Nat) (x1 : Int32) (x2 : Int32) (x3 : Int32) (x4 : Int32) (x5 : Int32) (D : dt) (H : Heap) (locs : List Loc) (ls : Array Slot), Is S ad o0 a0 0 → Wd G cA S D ad A s H locs → lv_has ls 8 [(0, .ref a0), (1, .int x1), (2, .int x2), (3, .int x3), (4, .int x4), (5, .int x5)] → f_X0_judgeBranch_250 S o0 x1 x2 x3 x4 x5 D = some (r, D') → W p l e R s m args below meth c H locs 0 0 (MQ below (Qn (some (.int r)) True (wpost G cA S D' ad A) A) args s 0 0 A) (F0 m 250 ls []) := by
  obtain ⟨hx, hb, -⟩ := id hC
  intro o0 a0 x1 x2 x3 x4 x5 D H locs ls hi0 hw hl h
  unfold f_X0_judgeBranch_250 at h
  refine lv_aload_n hx hb dX0_judgeBranch_250 rfl (lv_at hl 0 rfl) ?_
  refine lv_iload_n hx hb dX0_judgeBranch_251 rfl (lv_at hl 3 rfl) ?_
  refine lv_iload_n hx hb dX0_judgeBranch_252 rfl (lv_at hl 2 rfl) ?_
  refine lv_iload hx hb dX0_judgeBranch_253 (lv_at hl 5 rfl) ?_
  refine lv_if_eq (tgt := 271) hx hb dX0_judgeBranch_255 (by decide) (fun c172 => ?_) (fun c172 => ?_)
  · have h := i_yes c172 h
    refine lv_aload_n hx hb dX0_judgeBranch_271 rfl (lv_at hl 0 rfl) ?_
    obtain ⟨o173, ho176, h⟩ := rq_i h
    refine r_getR hC hw kc_0 hi0 0 rfl lk_317 dX0_judgeBranch_272 rfl ho176 (fun a174 hi175 => ?_)
    obtain ⟨o177, ho180, h⟩ := rq_i h
    refine r_getR hC hw kc_3 hi175 4 rfl lk_155 dX0_judgeBranch_275 rfl ho180 (fun a178 hi179 => ?_)
    refine lv_iload_n hx hb dX0_judgeBranch_278 rfl (lv_at hl 1 rfl) ?_
    obtain ⟨hn181, h⟩ := ix_i h
    refine r_iald hC hw hi179 hn181 dX0_judgeBranch_279 ?_
    refine lv_i2l (v := (gI D o177 x1.toNatClampNeg).toInt64) hx hb dX0_judgeBranch_280 rfl ?_
    exact w_X0_judgeBranch_281 hC hR o0 a0 x3 x2 ((gI D o177 x1.toNatClampNeg).toInt64) _ _ _ _ hi0 hw (lv_sub hl [] rfl) h
  · have h := i_no c172 h
    refine lv_aload_n hx hb dX0_judgeBranch_258 rfl (lv_at hl 0 rfl) ?_
    obtain ⟨o182, ho185, h⟩ := rq_i h
    refine r_getR hC hw kc_0 hi0 4 rfl lk_321 dX0_judgeBranch_259 rfl ho185 (fun a183 hi184 => ?_)
    obtain ⟨o186, ho189, h⟩ := rq_i h
    refine r_getR hC hw kc_4 hi184 2 rfl lk_268 dX0_judgeBranch_262 rfl ho189 (fun a187 hi188 => ?_)
    refine lv_iload hx hb dX0_judgeBranch_265 (lv_at hl 4 rfl) ?_
    obtain ⟨hn190, h⟩ := ix_i h
    refine r_lald hC hw hi188 hn190 dX0_judgeBranch_267 ?_
    refine lv_goto (tgt := 281) hx hb dX0_judgeBranch_268 (by decide) ?_
    exact w_X0_judgeBranch_281 hC hR o0 a0 x3 x2 (gL D o186 x4.toNatClampNeg) _ _ _ _ hi0 hw (lv_sub hl [] rfl) h
set_option maxHeartbeats 4000000 in
set_option maxRecDepth 100000 in
theorem w_X0_judgeBranch_233 {r : Int32} {D' : dt} (hC : Cx RX0 cX0_judgeBranch 8 (some .int) p s m args meth c) (hR : 3 ≤ R.frames ∧ 73 ≤ R.locals) : ∀ (o0 a0 : Nat) (x1 : Int32) (x2 : Int32) (x3 : Int32) (x4 : Int32) (x5 : Int32) (D : dt) (H : Heap) (locs : List Loc) (ls : Array Slot), Is S ad o0 a0 0 → Wd G cA S D ad A s H locs → lv_has ls 8 [(0, .ref a0), (1, .int x1), (2, .int x2), (3, .int x3), (4, .int x4), (5, .int x5)] → f_X0_judgeBranch_233 S o0 x1 x2 x3 x4 x5 D = some (r, D') → W p l e R s m args below meth c H locs 0 0 (MQ below (Qn (some (.int r)) True (wpost G cA S D' ad A) A) args s 0 0 A) (F0 m 233 ls []) := by
  obtain ⟨hx, hb, -⟩ := id hC
  intro o0 a0 x1 x2 x3 x4 x5 D H locs ls hi0 hw hl h
  unfold f_X0_judgeBranch_233 at h
  refine lv_iload hx hb dX0_judgeBranch_233 (lv_at hl 5 rfl) ?_
  refine lv_if_eq (tgt := 250) hx hb dX0_judgeBranch_235 (by decide) (fun c191 => ?_) (fun c191 => ?_)
  · have h := i_yes c191 h
    exact w_X0_judgeBranch_250 hC hR o0 a0 x1 x2 x3 x4 x5 _ _ _ _ hi0 hw (lv_sub hl [0, 1, 2, 3, 4, 5] rfl) h
  · have h := i_no c191 h
    refine lv_aload_n hx hb dX0_judgeBranch_238 rfl (lv_at hl 0 rfl) ?_
    obtain ⟨o192, ho195, h⟩ := rq_i h
    refine r_getR hC hw kc_0 hi0 4 rfl lk_321 dX0_judgeBranch_239 rfl ho195 (fun a193 hi194 => ?_)
    refine lv_iload hx hb dX0_judgeBranch_242 (lv_at hl 4 rfl) ?_
    obtain ⟨r197, hq196, h⟩ := pq_i h
    refine r_cV (st' := [.int r197]) [.int x4] [] hC hw kc_4 hi194 (k_X5_isOne _ hi194 hq196) mk_X5_isOne lk_809 ⟨Nat.le_trans (by decide) hR.1, Nat.le_trans (by decide) hR.2⟩ ⟨Nat.zero_le _, Nat.zero_le _⟩ rfl hl.1 rfl rfl (Nat.le_of_ble_eq_true rfl) dX0_judgeBranch_244 (fun hP H locs hw => ?_)
    refine lv_if_eq (tgt := 287) hx hb dX0_judgeBranch_247 (by decide) (fun c198 => ?_) (fun c198 => ?_)
    · have h := i_yes c198 h
      refine lv_aload_n hx hb dX0_judgeBranch_287 rfl (lv_at hl 0 rfl) ?_
      obtain ⟨o199, ho202, h⟩ := rq_i h
      refine r_getR hC hw kc_0 hi0 4 rfl lk_321 dX0_judgeBranch_288 rfl ho202 (fun a200 hi201 => ?_)
      refine lv_iload_n hx hb dX0_judgeBranch_291 rfl (lv_at hl 3 rfl) ?_
      obtain ⟨r204, hq203, h⟩ := pq_i h
      refine r_cV (st' := [.int r204]) [.int x3] [] hC hw kc_4 hi201 (k_X5_isOne _ hi201 hq203) mk_X5_isOne lk_809 ⟨Nat.le_trans (by decide) hR.1, Nat.le_trans (by decide) hR.2⟩ ⟨Nat.zero_le _, Nat.zero_le _⟩ rfl hl.1 rfl rfl (Nat.le_of_ble_eq_true rfl) dX0_judgeBranch_292 (fun hP H locs hw => ?_)
      refine lv_if_eq (tgt := 317) hx hb dX0_judgeBranch_295 (by decide) (fun c205 => ?_) (fun c205 => ?_)
      · have h := i_yes c205 h
        refine lv_iconst (v := 0) hx hb dX0_judgeBranch_317 (by decide) ?_
        cases h
        exact r_iret hC hw dX0_judgeBranch_318
      · have h := i_no c205 h
        refine lv_aload_n hx hb dX0_judgeBranch_298 rfl (lv_at hl 0 rfl) ?_
        refine lv_iload hx hb dX0_judgeBranch_299 (lv_at hl 4 rfl) ?_
        refine lv_iload_n hx hb dX0_judgeBranch_301 rfl (lv_at hl 2 rfl) ?_
        obtain ⟨r207, hq206, h⟩ := pq_i h
        refine r_cS (st' := [.int r207, .int x4, .ref a0]) [.int x2] [.int x4, .ref a0] hC hw (k_X0_changedAbout _ hq206) mk_X0_changedAbout lk_828 ⟨Nat.le_trans (by decide) hR.1, Nat.le_trans (by decide) hR.2⟩ ⟨Nat.zero_le _, Nat.zero_le _⟩ rfl hl.1 rfl rfl (Nat.le_of_ble_eq_true rfl) dX0_judgeBranch_302 (fun hP H locs hw => ?_)
        refine lv_aload_n hx hb dX0_judgeBranch_305 rfl (lv_at hl 0 rfl) ?_
        obtain ⟨o208, ho211, h⟩ := rq_i h
        refine r_getR hC hw kc_0 hi0 4 rfl lk_321 dX0_judgeBranch_306 rfl ho211 (fun a209 hi210 => ?_)
        obtain ⟨o212, ho215, h⟩ := rq_i h
        refine r_getR hC hw kc_4 hi210 2 rfl lk_268 dX0_judgeBranch_309 rfl ho215 (fun a213 hi214 => ?_)
        refine lv_iload_n hx hb dX0_judgeBranch_312 rfl (lv_at hl 3 rfl) ?_
        obtain ⟨hn216, h⟩ := ix_i h
        refine r_lald hC hw hi214 hn216 dX0_judgeBranch_313 ?_
        obtain ⟨_, D218, hq217, h⟩ := cq_i h
        refine r_cV (st' := []) [.int x4, .int r207, .long (gL D o212 x3.toNatClampNeg)] [] hC hw kc_0 hi0 (k_X0_narrowBoth _ hi0 hq217) mk_X0_narrowBoth lk_813 ⟨Nat.le_trans (by decide) hR.1, Nat.le_trans (by decide) hR.2⟩ ⟨Nat.zero_le _, Nat.zero_le _⟩ rfl hl.1 rfl rfl (Nat.le_of_ble_eq_true rfl) dX0_judgeBranch_314 (fun hP H locs hw => ?_)
        refine lv_iconst (v := 0) hx hb dX0_judgeBranch_317 (by decide) ?_
        cases h
        exact r_iret hC hw dX0_judgeBranch_318
    · have h := i_no c198 h
      exact w_X0_judgeBranch_250 hC hR o0 a0 x1 x2 x3 x4 x5 _ _ _ _ hi0 hw (lv_sub hl [0, 1, 2, 3, 4, 5] rfl) h
set_option maxHeartbeats 4000000 in
set_option maxRecDepth 100000 in
theorem w_X0_judgeBranch_205 {r : Int32} {D' : dt} (hC : Cx RX0 cX0_judgeBranch 8 (some .int) p s m args meth c) (hR : 3 ≤ R.frames ∧ 73 ≤ R.locals) : ∀ (o0 a0 : Nat) (x1 : Int32) (x2 : Int32) (x3 : Int32) (x4 : Int32) (x5 : Int32) (x6 : Int32) (D : dt) (H : Heap) (locs : List Loc) (ls : Array Slot), Is S ad o0 a0 0 → Wd G cA S D ad A s H locs → lv_has ls 8 [(0, .ref a0), (1, .int x1), (2, .int x2), (3, .int x3), (4, .int x4), (5, .int x5), (6, .int x6)] → f_X0_judgeBranch_205 S o0 x1 x2 x3 x4 x5 x6 D = some (r, D') → W p l e R s m args below meth c H locs 0 0 (MQ below (Qn (some (.int r)) True (wpost G cA S D' ad A) A) args s 0 0 A) (F0 m 205 ls []) := by
  obtain ⟨hx, hb, -⟩ := id hC
  intro o0 a0 x1 x2 x3 x4 x5 x6 D H locs ls hi0 hw hl h
  unfold f_X0_judgeBranch_205 at h
  refine lv_aload_n hx hb dX0_judgeBranch_205 rfl (lv_at hl 0 rfl) ?_
  refine lv_iload_n hx hb dX0_judgeBranch_206 rfl (lv_at hl 1 rfl) ?_
  obtain ⟨_, D220, hq219, h⟩ := cq_i h
  refine r_cV (st' := []) [.int x1] [] hC hw kc_0 hi0 (k_X0_goBothWays _ hi0 hq219) mk_X0_goBothWays lk_792 ⟨Nat.le_trans (by decide) hR.1, Nat.le_trans (by decide) hR.2⟩ ⟨Nat.zero_le _, Nat.zero_le _⟩ rfl hl.1 rfl rfl (Nat.le_of_ble_eq_true rfl) dX0_judgeBranch_207 (fun hP H locs hw => ?_)
  refine lv_aload_n hx hb dX0_judgeBranch_210 rfl (lv_at hl 0 rfl) ?_
  obtain ⟨o221, ho224, h⟩ := rq_i h
  refine r_getR hC hw kc_0 hi0 0 rfl lk_317 dX0_judgeBranch_211 rfl ho224 (fun a222 hi223 => ?_)
  refine lv_iload_n hx hb dX0_judgeBranch_214 rfl (lv_at hl 1 rfl) ?_
  obtain ⟨r226, hq225, h⟩ := pq_i h
  refine r_cV (st' := [.int r226]) [.int x1] [] hC hw kc_3 hi223 (k_X4_isWide _ hi223 hq225) mk_X4_isWide lk_673 ⟨Nat.le_trans (by decide) hR.1, Nat.le_trans (by decide) hR.2⟩ ⟨Nat.zero_le _, Nat.zero_le _⟩ rfl hl.1 rfl rfl (Nat.le_of_ble_eq_true rfl) dX0_judgeBranch_215 (fun hP H locs hw => ?_)
  refine lv_if_eq (tgt := 317) hx hb dX0_judgeBranch_218 (by decide) (fun c227 => ?_) (fun c227 => ?_)
  · have h := i_yes c227 h
    refine lv_iconst (v := 0) hx hb dX0_judgeBranch_317 (by decide) ?_
    cases h
    exact r_iret hC hw dX0_judgeBranch_318
  · have h := i_no c227 h
    refine lv_iload hx hb dX0_judgeBranch_221 (lv_at hl 6 rfl) ?_
    refine lv_if_ne (tgt := 233) hx hb dX0_judgeBranch_223 (by decide) (fun c228 => ?_) (fun c228 => ?_)
    · have h := i_no c228 h
      exact w_X0_judgeBranch_233 hC hR o0 a0 x1 x2 x3 x4 x5 _ _ _ _ hi0 hw (lv_sub hl [0, 1, 2, 3, 4, 5] rfl) h
    · have h := i_yes c228 h
      refine lv_iload_n hx hb dX0_judgeBranch_226 rfl (lv_at hl 2 rfl) ?_
      obtain ⟨r230, hq229, h⟩ := pq_i h
      refine r_cS (st' := [.int r230]) [.int x2] [] hC hw (k_X0_comparesUnsigned _ hq229) mk_X0_comparesUnsigned lk_806 ⟨Nat.le_trans (by decide) hR.1, Nat.le_trans (by decide) hR.2⟩ ⟨Nat.zero_le _, Nat.zero_le _⟩ rfl hl.1 rfl rfl (Nat.le_of_ble_eq_true rfl) dX0_judgeBranch_227 (fun hP H locs hw => ?_)
      refine lv_if_eq (tgt := 317) hx hb dX0_judgeBranch_230 (by decide) (fun c231 => ?_) (fun c231 => ?_)
      · have h := i_yes c231 h
        refine lv_iconst (v := 0) hx hb dX0_judgeBranch_317 (by decide) ?_
        cases h
        exact r_iret hC hw dX0_judgeBranch_318
      · have h := i_no c231 h
        exact w_X0_judgeBranch_233 hC hR o0 a0 x1 x2 x3 x4 x5 _ _ _ _ hi0 hw (lv_sub hl [0, 1, 2, 3, 4, 5] rfl) h
set_option maxHeartbeats 4000000 in
set_option maxRecDepth 100000 in
theorem w_X0_judgeBranch_175 {r : Int32} {D' : dt} (hC : Cx RX0 cX0_judgeBranch 8 (some .int) p s m args meth c) (hR : 3 ≤ R.frames ∧ 73 ≤ R.locals) : ∀ (o0 a0 : Nat) (x1 : Int32) (x2 : Int32) (x3 : Int32) (x4 : Int32) (x5 : Int32) (x6 : Int32) (D : dt) (H : Heap) (locs : List Loc) (ls : Array Slot), Is S ad o0 a0 0 → Wd G cA S D ad A s H locs → lv_has ls 8 [(0, .ref a0), (1, .int x1), (2, .int x2), (3, .int x3), (4, .int x4), (5, .int x5), (6, .int x6)] → f_X0_judgeBranch_175 S o0 x1 x2 x3 x4 x5 x6 D = some (r, D') → W p l e R s m args below meth c H locs 0 0 (MQ below (Qn (some (.int r)) True (wpost G cA S D' ad A) A) args s 0 0 A) (F0 m 175 ls []) := by
  obtain ⟨hx, hb, -⟩ := id hC
  intro o0 a0 x1 x2 x3 x4 x5 x6 D H locs ls hi0 hw hl h
  unfold f_X0_judgeBranch_175 at h
  refine lv_aload_n hx hb dX0_judgeBranch_175 rfl (lv_at hl 0 rfl) ?_
  obtain ⟨o232, ho235, h⟩ := rq_i h
  refine r_getR hC hw kc_0 hi0 4 rfl lk_321 dX0_judgeBranch_176 rfl ho235 (fun a233 hi234 => ?_)
  refine lv_iload_n hx hb dX0_judgeBranch_179 rfl (lv_at hl 3 rfl) ?_
  obtain ⟨r237, hq236, h⟩ := pq_i h
  refine r_cV (st' := [.int r237]) [.int x3] [] hC hw kc_4 hi234 (k_X5_isNumber _ hi234 hq236) mk_X5_isNumber lk_639 ⟨Nat.le_trans (by decide) hR.1, Nat.le_trans (by decide) hR.2⟩ ⟨Nat.zero_le _, Nat.zero_le _⟩ rfl hl.1 rfl rfl (Nat.le_of_ble_eq_true rfl) dX0_judgeBranch_180 (fun hP H locs hw => ?_)
  refine lv_if_eq (tgt := 203) hx hb dX0_judgeBranch_183 (by decide) (fun c238 => ?_) (fun c238 => ?_)
  · have h := i_yes c238 h
    refine lv_iconst (v := 3) hx hb dX0_judgeBranch_203 (by decide) ?_
    cases h
    exact r_iret hC hw dX0_judgeBranch_204
  · have h := i_no c238 h
    refine lv_iload hx hb dX0_judgeBranch_186 (lv_at hl 5 rfl) ?_
    refine lv_if_eq (tgt := 205) hx hb dX0_judgeBranch_188 (by decide) (fun c239 => ?_) (fun c239 => ?_)
    · have h := i_yes c239 h
      exact w_X0_judgeBranch_205 hC hR o0 a0 x1 x2 x3 x4 x5 x6 _ _ _ _ hi0 hw (lv_sub hl [0, 1, 2, 3, 4, 5, 6] rfl) h
    · have h := i_no c239 h
      refine lv_aload_n hx hb dX0_judgeBranch_191 rfl (lv_at hl 0 rfl) ?_
      obtain ⟨o240, ho243, h⟩ := rq_i h
      refine r_getR hC hw kc_0 hi0 4 rfl lk_321 dX0_judgeBranch_192 rfl ho243 (fun a241 hi242 => ?_)
      refine lv_iload hx hb dX0_judgeBranch_195 (lv_at hl 4 rfl) ?_
      obtain ⟨r245, hq244, h⟩ := pq_i h
      refine r_cV (st' := [.int r245]) [.int x4] [] hC hw kc_4 hi242 (k_X5_isNumber _ hi242 hq244) mk_X5_isNumber lk_639 ⟨Nat.le_trans (by decide) hR.1, Nat.le_trans (by decide) hR.2⟩ ⟨Nat.zero_le _, Nat.zero_le _⟩ rfl hl.1 rfl rfl (Nat.le_of_ble_eq_true rfl) dX0_judgeBranch_197 (fun hP H locs hw => ?_)
      refine lv_if_ne (tgt := 205) hx hb dX0_judgeBranch_200 (by decide) (fun c246 => ?_) (fun c246 => ?_)
      · have h := i_no c246 h
        exact w_X0_judgeBranch_205 hC hR o0 a0 x1 x2 x3 x4 x5 x6 _ _ _ _ hi0 hw (lv_sub hl [0, 1, 2, 3, 4, 5, 6] rfl) h
      · have h := i_yes c246 h
        refine lv_iconst (v := 3) hx hb dX0_judgeBranch_203 (by decide) ?_
        cases h
        exact r_iret hC hw dX0_judgeBranch_204
set_option maxHeartbeats 4000000 in
set_option maxRecDepth 100000 in
theorem w_X0_judgeBranch_109 {r : Int32} {D' : dt} (hC : Cx RX0 cX0_judgeBranch 8 (some .int) p s m args meth c) (hR : 3 ≤ R.frames ∧ 73 ≤ R.locals) : ∀ (o0 a0 : Nat) (x1 : Int32) (x2 : Int32) (x3 : Int32) (x4 : Int32) (x5 : Int32) (x6 : Int32) (xs0 : Int32) (D : dt) (H : Heap) (locs : List Loc) (ls : Array Slot), Is S ad o0 a0 0 → Wd G cA S D ad A s H locs → lv_has ls 8 [(0, .ref a0), (1, .int x1), (2, .int x2), (3, .int x3), (4, .int x4), (5, .int x5), (6, .int x6)] → f_X0_judgeBranch_109 S o0 x1 x2 x3 x4 x5 x6 xs0 D = some (r, D') → W p l e R s m args below meth c H locs 0 0 (MQ below (Qn (some (.int r)) True (wpost G cA S D' ad A) A) args s 0 0 A) (F0 m 109 ls [.int xs0]) := by
  obtain ⟨hx, hb, -⟩ := id hC
  intro o0 a0 x1 x2 x3 x4 x5 x6 xs0 D H locs ls hi0 hw hl h
  unfold f_X0_judgeBranch_109 at h
  refine lv_istore (lv' := [(7, .int xs0), (0, .ref a0), (1, .int x1), (2, .int x2), (3, .int x3), (4, .int x4), (5, .int x5), (6, .int x6)]) hx hb dX0_judgeBranch_109 hl (by decide) rfl (fun ls hl => ?_)
  refine lv_aload_n hx hb dX0_judgeBranch_111 rfl (lv_at hl 1 rfl) ?_
  obtain ⟨o247, ho250, h⟩ := rq_i h
  refine r_getR hC hw kc_0 hi0 4 rfl lk_321 dX0_judgeBranch_112 rfl ho250 (fun a248 hi249 => ?_)
  refine lv_iload_n hx hb dX0_judgeBranch_115 rfl (lv_at hl 4 rfl) ?_
  obtain ⟨r252, hq251, h⟩ := pq_i h
  refine r_cV (st' := [.int r252]) [.int x3] [] hC hw kc_4 hi249 (k_X5_kind _ hi249 hq251) mk_X5_kind lk_587 ⟨Nat.le_trans (by decide) hR.1, Nat.le_trans (by decide) hR.2⟩ ⟨Nat.zero_le _, Nat.zero_le _⟩ rfl hl.1 rfl rfl (Nat.le_of_ble_eq_true rfl) dX0_judgeBranch_116 (fun hP H locs hw => ?_)
  refine lv_bipush (v := 6) hx hb dX0_judgeBranch_119 (by decide) ?_
  refine lv_icmp_ne (tgt := 175) hx hb dX0_judgeBranch_121 (by decide) (fun c253 => ?_) (fun c253 => ?_)
  · have h := i_no c253 h
    exact w_X0_judgeBranch_175 hC hR o0 a0 x1 x2 x3 x4 x5 x6 _ _ _ _ hi0 hw (lv_sub hl [1, 2, 3, 4, 5, 6, 7] rfl) h
  · have h := i_yes c253 h
    refine lv_iload hx hb dX0_judgeBranch_124 (lv_at hl 7 rfl) ?_
    refine lv_if_eq (tgt := 175) hx hb dX0_judgeBranch_126 (by decide) (fun c254 => ?_) (fun c254 => ?_)
    · have h := i_yes c254 h
      exact w_X0_judgeBranch_175 hC hR o0 a0 x1 x2 x3 x4 x5 x6 _ _ _ _ hi0 hw (lv_sub hl [1, 2, 3, 4, 5, 6, 7] rfl) h
    · have h := i_no c254 h
      refine lv_iload hx hb dX0_judgeBranch_129 (lv_at hl 0 rfl) ?_
      refine lv_if_eq (tgt := 175) hx hb dX0_judgeBranch_131 (by decide) (fun c255 => ?_) (fun c255 => ?_)
      · have h := i_yes c255 h
        exact w_X0_judgeBranch_175 hC hR o0 a0 x1 x2 x3 x4 x5 x6 _ _ _ _ hi0 hw (lv_sub hl [1, 2, 3, 4, 5, 6, 7] rfl) h
      · have h := i_no c255 h
        refine lv_aload_n hx hb dX0_judgeBranch_134 rfl (lv_at hl 1 rfl) ?_
        obtain ⟨o256, ho259, h⟩ := rq_i h
        refine r_getR hC hw kc_0 hi0 0 rfl lk_317 dX0_judgeBranch_135 rfl ho259 (fun a257 hi258 => ?_)
        refine lv_iload_n hx hb dX0_judgeBranch_138 rfl (lv_at hl 2 rfl) ?_
        obtain ⟨r261, hq260, h⟩ := pq_i h
        refine r_cV (st' := [.int r261]) [.int x1] [] hC hw kc_3 hi258 (k_X4_isWide _ hi258 hq260) mk_X4_isWide lk_673 ⟨Nat.le_trans (by decide) hR.1, Nat.le_trans (by decide) hR.2⟩ ⟨Nat.zero_le _, Nat.zero_le _⟩ rfl hl.1 rfl rfl (Nat.le_of_ble_eq_true rfl) dX0_judgeBranch_139 (fun hP H locs hw => ?_)
        refine lv_if_eq (tgt := 175) hx hb dX0_judgeBranch_142 (by decide) (fun c262 => ?_) (fun c262 => ?_)
        · have h := i_yes c262 h
          exact w_X0_judgeBranch_175 hC hR o0 a0 x1 x2 x3 x4 x5 x6 _ _ _ _ hi0 hw (lv_sub hl [1, 2, 3, 4, 5, 6, 7] rfl) h
        · have h := i_no c262 h
          refine lv_aload_n hx hb dX0_judgeBranch_145 rfl (lv_at hl 1 rfl) ?_
          refine lv_iload_n hx hb dX0_judgeBranch_146 rfl (lv_at hl 2 rfl) ?_
          obtain ⟨_, D264, hq263, h⟩ := cq_i h
          refine r_cV (st' := []) [.int x1] [] hC hw kc_0 hi0 (k_X0_goBothWays _ hi0 hq263) mk_X0_goBothWays lk_792 ⟨Nat.le_trans (by decide) hR.1, Nat.le_trans (by decide) hR.2⟩ ⟨Nat.zero_le _, Nat.zero_le _⟩ rfl hl.1 rfl rfl (Nat.le_of_ble_eq_true rfl) dX0_judgeBranch_147 (fun hP H locs hw => ?_)
          refine lv_aload_n hx hb dX0_judgeBranch_150 rfl (lv_at hl 1 rfl) ?_
          refine lv_aload_n hx hb dX0_judgeBranch_151 rfl (lv_at hl 1 rfl) ?_
          obtain ⟨o265, ho268, h⟩ := rq_i h
          refine r_getR hC hw kc_0 hi0 4 rfl lk_321 dX0_judgeBranch_152 rfl ho268 (fun a266 hi267 => ?_)
          obtain ⟨o269, ho272, h⟩ := rq_i h
          refine r_getR hC hw kc_4 hi267 1 rfl lk_266 dX0_judgeBranch_155 rfl ho272 (fun a270 hi271 => ?_)
          refine lv_iload_n hx hb dX0_judgeBranch_158 rfl (lv_at hl 4 rfl) ?_
          obtain ⟨hn273, h⟩ := ix_i h
          refine r_iald hC hw hi271 hn273 dX0_judgeBranch_159 ?_
          refine lv_iload_n hx hb dX0_judgeBranch_160 rfl (lv_at hl 3 rfl) ?_
          refine lv_iconst (v := 1) hx hb dX0_judgeBranch_161 (by decide) ?_
          refine lv_icmp_ne (tgt := 169) hx hb dX0_judgeBranch_162 (by decide) (fun c274 => ?_) (fun c274 => ?_)
          · have h := i_no c274 h
            refine lv_iconst (v := 0) hx hb dX0_judgeBranch_169 (by decide) ?_
            exact w_X0_judgeBranch_170 hC hR o0 a0 (gI D264 o269 x3.toNatClampNeg) (0 : Int32) _ _ _ _ hi0 hw (lv_sub hl [] rfl) h
          · have h := i_yes c274 h
            refine lv_iconst (v := 1) hx hb dX0_judgeBranch_165 (by decide) ?_
            refine lv_goto (tgt := 170) hx hb dX0_judgeBranch_166 (by decide) ?_
            exact w_X0_judgeBranch_170 hC hR o0 a0 (gI D264 o269 x3.toNatClampNeg) (1 : Int32) _ _ _ _ hi0 hw (lv_sub hl [] rfl) h
set_option maxHeartbeats 4000000 in
set_option maxRecDepth 100000 in
theorem w_X0_judgeBranch_108 {r : Int32} {D' : dt} (hC : Cx RX0 cX0_judgeBranch 8 (some .int) p s m args meth c) (hR : 3 ≤ R.frames ∧ 73 ≤ R.locals) : ∀ (o0 a0 : Nat) (x1 : Int32) (x2 : Int32) (x3 : Int32) (x4 : Int32) (x5 : Int32) (x6 : Int32) (D : dt) (H : Heap) (locs : List Loc) (ls : Array Slot), Is S ad o0 a0 0 → Wd G cA S D ad A s H locs → lv_has ls 8 [(0, .ref a0), (1, .int x1), (2, .int x2), (3, .int x3), (4, .int x4), (5, .int x5), (6, .int x6)] → f_X0_judgeBranch_108 S o0 x1 x2 x3 x4 x5 x6 D = some (r, D') → W p l e R s m args below meth c H locs 0 0 (MQ below (Qn (some (.int r)) True (wpost G cA S D' ad A) A) args s 0 0 A) (F0 m 108 ls []) := by
  obtain ⟨hx, hb, -⟩ := id hC
  intro o0 a0 x1 x2 x3 x4 x5 x6 D H locs ls hi0 hw hl h
  unfold f_X0_judgeBranch_108 at h
  refine lv_iconst (v := 0) hx hb dX0_judgeBranch_108 (by decide) ?_
  exact w_X0_judgeBranch_109 hC hR o0 a0 x1 x2 x3 x4 x5 x6 (0 : Int32) _ _ _ _ hi0 hw (lv_sub hl [0, 1, 2, 3, 4, 5, 6] rfl) h
set_option maxHeartbeats 4000000 in
set_option maxRecDepth 100000 in
theorem w_X0_judgeBranch_85 {r : Int32} {D' : dt} (hC : Cx RX0 cX0_judgeBranch 8 (some .int) p s m args meth c) (hR : 3 ≤ R.frames ∧ 73 ≤ R.locals) : ∀ (o0 a0 : Nat) (x1 : Int32) (x2 : Int32) (x3 : Int32) (x4 : Int32) (x5 : Int32) (xs0 : Int32) (D : dt) (H : Heap) (locs : List Loc) (ls : Array Slot), Is S ad o0 a0 0 → Wd G cA S D ad A s H locs → lv_has ls 8 [(0, .ref a0), (1, .int x1), (2, .int x2), (3, .int x3), (4, .int x4), (5, .int x5)] → f_X0_judgeBranch_85 S o0 x1 x2 x3 x4 x5 xs0 D = some (r, D') → W p l e R s m args below meth c H locs 0 0 (MQ below (Qn (some (.int r)) True (wpost G cA S D' ad A) A) args s 0 0 A) (F0 m 85 ls [.int xs0]) := by
  obtain ⟨hx, hb, -⟩ := id hC
  intro o0 a0 x1 x2 x3 x4 x5 xs0 D H locs ls hi0 hw hl h
  unfold f_X0_judgeBranch_85 at h
  refine lv_istore (lv' := [(6, .int xs0), (0, .ref a0), (1, .int x1), (2, .int x2), (3, .int x3), (4, .int x4), (5, .int x5)]) hx hb dX0_judgeBranch_85 hl (by decide) rfl (fun ls hl => ?_)
  refine lv_iload hx hb dX0_judgeBranch_87 (lv_at hl 6 rfl) ?_
  refine lv_if_ne (tgt := 108) hx hb dX0_judgeBranch_89 (by decide) (fun c275 => ?_) (fun c275 => ?_)
  · have h := i_no c275 h
    exact w_X0_judgeBranch_108 hC hR o0 a0 x1 x2 x3 x4 x5 xs0 _ _ _ _ hi0 hw (lv_sub hl [1, 2, 3, 4, 5, 6, 0] rfl) h
  · have h := i_yes c275 h
    refine lv_aload_n hx hb dX0_judgeBranch_92 rfl (lv_at hl 1 rfl) ?_
    obtain ⟨o276, ho279, h⟩ := rq_i h
    refine r_getR hC hw kc_0 hi0 0 rfl lk_317 dX0_judgeBranch_93 rfl ho279 (fun a277 hi278 => ?_)
    obtain ⟨o280, ho283, h⟩ := rq_i h
    refine r_getR hC hw kc_3 hi278 4 rfl lk_155 dX0_judgeBranch_96 rfl ho283 (fun a281 hi282 => ?_)
    refine lv_iload_n hx hb dX0_judgeBranch_99 rfl (lv_at hl 2 rfl) ?_
    obtain ⟨hn284, h⟩ := ix_i h
    refine r_iald hC hw hi282 hn284 dX0_judgeBranch_100 ?_
    refine lv_if_ne (tgt := 108) hx hb dX0_judgeBranch_101 (by decide) (fun c285 => ?_) (fun c285 => ?_)
    · have h := i_no c285 h
      exact w_X0_judgeBranch_108 hC hR o0 a0 x1 x2 x3 x4 x5 xs0 _ _ _ _ hi0 hw (lv_sub hl [1, 2, 3, 4, 5, 6, 0] rfl) h
    · have h := i_yes c285 h
      refine lv_iconst (v := 1) hx hb dX0_judgeBranch_104 (by decide) ?_
      refine lv_goto (tgt := 109) hx hb dX0_judgeBranch_105 (by decide) ?_
      exact w_X0_judgeBranch_109 hC hR o0 a0 x1 x2 x3 x4 x5 xs0 (1 : Int32) _ _ _ _ hi0 hw (lv_sub hl [1, 2, 3, 4, 5, 6, 0] rfl) h
set_option maxHeartbeats 4000000 in
set_option maxRecDepth 100000 in
theorem w_X0_judgeBranch_80 {r : Int32} {D' : dt} (hC : Cx RX0 cX0_judgeBranch 8 (some .int) p s m args meth c) (hR : 3 ≤ R.frames ∧ 73 ≤ R.locals) : ∀ (o0 a0 : Nat) (x1 : Int32) (x2 : Int32) (x3 : Int32) (x4 : Int32) (x5 : Int32) (D : dt) (H : Heap) (locs : List Loc) (ls : Array Slot), Is S ad o0 a0 0 → Wd G cA S D ad A s H locs → lv_has ls 8 [(0, .ref a0), (1, .int x1), (2, .int x2), (3, .int x3), (4, .int x4), (5, .int x5)] → f_X0_judgeBranch_80 S o0 x1 x2 x3 x4 x5 D = some (r, D') → W p l e R s m args below meth c H locs 0 0 (MQ below (Qn (some (.int r)) True (wpost G cA S D' ad A) A) args s 0 0 A) (F0 m 80 ls []) := by
  obtain ⟨hx, hb, -⟩ := id hC
  intro o0 a0 x1 x2 x3 x4 x5 D H locs ls hi0 hw hl h
  unfold f_X0_judgeBranch_80 at h
  refine lv_iconst (v := 1) hx hb dX0_judgeBranch_80 (by decide) ?_
  refine lv_goto (tgt := 85) hx hb dX0_judgeBranch_81 (by decide) ?_
  exact w_X0_judgeBranch_85 hC hR o0 a0 x1 x2 x3 x4 x5 (1 : Int32) _ _ _ _ hi0 hw (lv_sub hl [0, 1, 2, 3, 4, 5] rfl) h
set_option maxHeartbeats 4000000 in
set_option maxRecDepth 100000 in
theorem w_X0_judgeBranch_70 {r : Int32} {D' : dt} (hC : Cx RX0 cX0_judgeBranch 8 (some .int) p s m args meth c) (hR : 3 ≤ R.frames ∧ 73 ≤ R.locals) : ∀ (o0 a0 : Nat) (x1 : Int32) (x2 : Int32) (x3 : Int32) (x4 : Int32) (x5 : Int32) (D : dt) (H : Heap) (locs : List Loc) (ls : Array Slot), Is S ad o0 a0 0 → Wd G cA S D ad A s H locs → lv_has ls 8 [(0, .ref a0), (1, .int x1), (2, .int x2), (3, .int x3), (4, .int x4), (5, .int x5)] → f_X0_judgeBranch_70 S o0 x1 x2 x3 x4 x5 D = some (r, D') → W p l e R s m args below meth c H locs 0 0 (MQ below (Qn (some (.int r)) True (wpost G cA S D' ad A) A) args s 0 0 A) (F0 m 70 ls []) := by
  obtain ⟨hx, hb, -⟩ := id hC
  intro o0 a0 x1 x2 x3 x4 x5 D H locs ls hi0 hw hl h
  unfold f_X0_judgeBranch_70 at h
  refine lv_iload_n hx hb dX0_judgeBranch_70 rfl (lv_at hl 2 rfl) ?_
  refine lv_iconst (v := 1) hx hb dX0_judgeBranch_71 (by decide) ?_
  refine lv_icmp_eq (tgt := 80) hx hb dX0_judgeBranch_72 (by decide) (fun c286 => ?_) (fun c286 => ?_)
  · have h := i_yes c286 h
    exact w_X0_judgeBranch_80 hC hR o0 a0 x1 x2 x3 x4 x5 _ _ _ _ hi0 hw (lv_sub hl [0, 1, 2, 3, 4, 5] rfl) h
  · have h := i_no c286 h
    refine lv_iload_n hx hb dX0_judgeBranch_75 rfl (lv_at hl 2 rfl) ?_
    refine lv_iconst (v := 5) hx hb dX0_judgeBranch_76 (by decide) ?_
    refine lv_icmp_ne (tgt := 84) hx hb dX0_judgeBranch_77 (by decide) (fun c287 => ?_) (fun c287 => ?_)
    · have h := i_no c287 h
      refine lv_iconst (v := 0) hx hb dX0_judgeBranch_84 (by decide) ?_
      exact w_X0_judgeBranch_85 hC hR o0 a0 x1 x2 x3 x4 x5 (0 : Int32) _ _ _ _ hi0 hw (lv_sub hl [0, 1, 2, 3, 4, 5] rfl) h
    · have h := i_yes c287 h
      exact w_X0_judgeBranch_80 hC hR o0 a0 x1 x2 x3 x4 x5 _ _ _ _ hi0 hw (lv_sub hl [0, 1, 2, 3, 4, 5] rfl) h
set_option maxHeartbeats 4000000 in
set_option maxRecDepth 100000 in
theorem w_X0_judgeBranch_0 {r : Int32} {D' : dt} (hC : Cx RX0 cX0_judgeBranch 8 (some .int) p s m args meth c) (hR : 3 ≤ R.frames ∧ 73 ≤ R.locals) : ∀ (o0 a0 : Nat) (x1 : Int32) (D : dt) (H : Heap) (locs : List Loc) (ls : Array Slot), Is S ad o0 a0 0 → Wd G cA S D ad A s H locs → lv_has ls 8 [(0, .ref a0), (1, .int x1)] → f_X0_judgeBranch S o0 x1 D = some (r, D') → W p l e R s m args below meth c H locs 0 0 (MQ below (Qn (some (.int r)) True (wpost G cA S D' ad A) A) args s 0 0 A) (F0 m 0 ls []) := by
  obtain ⟨hx, hb, -⟩ := id hC
  intro o0 a0 x1 D H locs ls hi0 hw hl h
  unfold f_X0_judgeBranch at h
  refine lv_aload_n hx hb dX0_judgeBranch_0 rfl (lv_at hl 0 rfl) ?_
  obtain ⟨o288, ho291, h⟩ := rq_i h
  refine r_getR hC hw kc_0 hi0 0 rfl lk_317 dX0_judgeBranch_1 rfl ho291 (fun a289 hi290 => ?_)
  refine lv_iload_n hx hb dX0_judgeBranch_4 rfl (lv_at hl 1 rfl) ?_
  obtain ⟨r293, hq292, h⟩ := pq_i h
  refine r_cV (st' := [.int r293]) [.int x1] [] hC hw kc_3 hi290 (k_X4_code _ hi290 hq292) mk_X4_code lk_671 ⟨Nat.le_trans (by decide) hR.1, Nat.le_trans (by decide) hR.2⟩ ⟨Nat.zero_le _, Nat.zero_le _⟩ rfl hl.1 rfl rfl (Nat.le_of_ble_eq_true rfl) dX0_judgeBranch_5 (fun hP H locs hw => ?_)
  refine lv_istore_n (lv' := [(2, .int r293), (0, .ref a0), (1, .int x1)]) hx hb dX0_judgeBranch_8 rfl hl (by decide) rfl (fun ls hl => ?_)
  refine lv_aload_n hx hb dX0_judgeBranch_9 rfl (lv_at hl 1 rfl) ?_
  obtain ⟨o294, ho297, h⟩ := rq_i h
  refine r_getR hC hw kc_0 hi0 0 rfl lk_317 dX0_judgeBranch_10 rfl ho297 (fun a295 hi296 => ?_)
  obtain ⟨o298, ho301, h⟩ := rq_i h
  refine r_getR hC hw kc_3 hi296 1 rfl lk_146 dX0_judgeBranch_13 rfl ho301 (fun a299 hi300 => ?_)
  refine lv_iload_n hx hb dX0_judgeBranch_16 rfl (lv_at hl 2 rfl) ?_
  obtain ⟨hn302, h⟩ := ix_i h
  refine r_iald hC hw hi300 hn302 dX0_judgeBranch_17 ?_
  refine lv_topi (fun y303 ey303 => ?_)
  have h := nm_i h y303 ey303
  refine lv_istore_n (lv' := [(3, .int y303), (2, .int r293), (0, .ref a0), (1, .int x1)]) hx hb dX0_judgeBranch_18 rfl hl (by decide) rfl (fun ls hl => ?_)
  refine lv_aload_n hx hb dX0_judgeBranch_19 rfl (lv_at hl 2 rfl) ?_
  obtain ⟨o304, ho307, h⟩ := rq_i h
  refine r_getR hC hw kc_0 hi0 0 rfl lk_317 dX0_judgeBranch_20 rfl ho307 (fun a305 hi306 => ?_)
  obtain ⟨o308, ho311, h⟩ := rq_i h
  refine r_getR hC hw kc_3 hi306 2 rfl lk_149 dX0_judgeBranch_23 rfl ho311 (fun a309 hi310 => ?_)
  refine lv_iload_n hx hb dX0_judgeBranch_26 rfl (lv_at hl 3 rfl) ?_
  obtain ⟨hn312, h⟩ := ix_i h
  refine r_iald hC hw hi310 hn312 dX0_judgeBranch_27 ?_
  refine lv_topi (fun y313 ey313 => ?_)
  have h := nm_i h y313 ey313
  refine lv_istore (lv' := [(4, .int y313), (3, .int y303), (2, .int r293), (0, .ref a0), (1, .int x1)]) hx hb dX0_judgeBranch_28 hl (by decide) rfl (fun ls hl => ?_)
  refine lv_aload_n hx hb dX0_judgeBranch_30 rfl (lv_at hl 3 rfl) ?_
  obtain ⟨o314, ho317, h⟩ := rq_i h
  refine r_getR hC hw kc_0 hi0 0 rfl lk_317 dX0_judgeBranch_31 rfl ho317 (fun a315 hi316 => ?_)
  refine lv_iload_n hx hb dX0_judgeBranch_34 rfl (lv_at hl 4 rfl) ?_
  obtain ⟨r319, hq318, h⟩ := pq_i h
  refine r_cV (st' := [.int r319]) [.int x1] [] hC hw kc_3 hi316 (k_X4_byRegister _ hi316 hq318) mk_X4_byRegister lk_672 ⟨Nat.le_trans (by decide) hR.1, Nat.le_trans (by decide) hR.2⟩ ⟨Nat.zero_le _, Nat.zero_le _⟩ rfl hl.1 rfl rfl (Nat.le_of_ble_eq_true rfl) dX0_judgeBranch_35 (fun hP H locs hw => ?_)
  refine lv_istore (lv' := [(5, .int r319), (4, .int y313), (3, .int y303), (2, .int r293), (0, .ref a0), (1, .int x1)]) hx hb dX0_judgeBranch_38 hl (by decide) rfl (fun ls hl => ?_)
  refine lv_aload_n hx hb dX0_judgeBranch_40 rfl (lv_at hl 4 rfl) ?_
  obtain ⟨o320, ho323, h⟩ := rq_i h
  refine r_getR hC hw kc_0 hi0 4 rfl lk_321 dX0_judgeBranch_41 rfl ho323 (fun a321 hi322 => ?_)
  refine lv_iload_n hx hb dX0_judgeBranch_44 rfl (lv_at hl 2 rfl) ?_
  obtain ⟨r325, hq324, h⟩ := pq_i h
  refine r_cV (st' := [.int r325]) [.int y303] [] hC hw kc_4 hi322 (k_X5_isNone _ hi322 hq324) mk_X5_isNone lk_579 ⟨Nat.le_trans (by decide) hR.1, Nat.le_trans (by decide) hR.2⟩ ⟨Nat.zero_le _, Nat.zero_le _⟩ rfl hl.1 rfl rfl (Nat.le_of_ble_eq_true rfl) dX0_judgeBranch_45 (fun hP H locs hw => ?_)
  refine lv_if_ne (tgt := 68) hx hb dX0_judgeBranch_48 (by decide) (fun c326 => ?_) (fun c326 => ?_)
  · have h := i_no c326 h
    refine lv_iconst (v := 2) hx hb dX0_judgeBranch_68 (by decide) ?_
    cases h
    exact r_iret hC hw dX0_judgeBranch_69
  · have h := i_yes c326 h
    refine lv_iload hx hb dX0_judgeBranch_51 (lv_at hl 0 rfl) ?_
    refine lv_if_eq (tgt := 70) hx hb dX0_judgeBranch_53 (by decide) (fun c327 => ?_) (fun c327 => ?_)
    · have h := i_yes c327 h
      exact w_X0_judgeBranch_70 hC hR o0 a0 x1 r293 y303 y313 r319 _ _ _ _ hi0 hw (lv_sub hl [4, 5, 3, 2, 1, 0] rfl) h
    · have h := i_no c327 h
      refine lv_aload_n hx hb dX0_judgeBranch_56 rfl (lv_at hl 4 rfl) ?_
      obtain ⟨o328, ho331, h⟩ := rq_i h
      refine r_getR hC hw kc_0 hi0 4 rfl lk_321 dX0_judgeBranch_57 rfl ho331 (fun a329 hi330 => ?_)
      refine lv_iload hx hb dX0_judgeBranch_60 (lv_at hl 1 rfl) ?_
      obtain ⟨r333, hq332, h⟩ := pq_i h
      refine r_cV (st' := [.int r333]) [.int y313] [] hC hw kc_4 hi330 (k_X5_isNone _ hi330 hq332) mk_X5_isNone lk_579 ⟨Nat.le_trans (by decide) hR.1, Nat.le_trans (by decide) hR.2⟩ ⟨Nat.zero_le _, Nat.zero_le _⟩ rfl hl.1 rfl rfl (Nat.le_of_ble_eq_true rfl) dX0_judgeBranch_62 (fun hP H locs hw => ?_)
      refine lv_if_eq (tgt := 70) hx hb dX0_judgeBranch_65 (by decide) (fun c334 => ?_) (fun c334 => ?_)
      · have h := i_yes c334 h
        exact w_X0_judgeBranch_70 hC hR o0 a0 x1 r293 y303 y313 r319 _ _ _ _ hi0 hw (lv_sub hl [4, 5, 3, 2, 1, 0] rfl) h
      · have h := i_no c334 h
        refine lv_iconst (v := 2) hx hb dX0_judgeBranch_68 (by decide) ?_
        cases h
        exact r_iret hC hw dX0_judgeBranch_69
set_option maxHeartbeats 4000000 in
set_option maxRecDepth 100000 in
theorem k_X0_judgeBranch {l : Launch} {G : va_G} {cA : Nat → ClassId} {S : sh} {D D' : dt} {ad : Nat → Nat} (sz : Nat) {o0 a0 : Nat} {x1 : Int32} {r : Int32} (hi0 : Is S ad o0 a0 0) (h : f_X0_judgeBranch S o0 x1 D = some (r, D')) : Co l yX0_judgeBranch (Cond.code yX0_judgeBranch cX0_judgeBranch 8 (some .int) :: tb0) 3 73 [.ref a0, .int x1] G cA S D ad sz (some (.int r)) True D' := by
  refine Met.ofW (cc := cX0_judgeBranch) (maxL := 8) (ret := (some .int)) (by decide) rfl ?_
  intro p e s m args below meth c s₁ B hml hv
  obtain ⟨rfl, hsz, hP, hK, hD0, hT, hX⟩ := hv
  subst hsz
  have hts := atoms_spec (ws := Cond.code yX0_judgeBranch cX0_judgeBranch 8 (some .int) :: tb0) B.pre
  have hC : Cx RX0 cX0_judgeBranch 8 (some .int) p s m _ meth c := ⟨B.exec, B.bytes, hml, findClass_of_methodNamed B.named, fun w q => hts w (List.mem_cons_of_mem _ q), B.returns, B.notSynchronized⟩
  have hw := Wd.entry hP hK hD0 hT hX
  have hl := lv_entry ([.ref a0, .int x1]) (n := 8) (Nat.le_of_ble_eq_true rfl)
  rw [lg_entry_eq]
  exact w_X0_judgeBranch_0 hC ⟨Nat.le_refl _, Nat.le_refl _⟩ o0 a0 x1 D _ _ _ hi0 hw hl h
set_option maxHeartbeats 4000000 in
set_option maxRecDepth 100000 in
theorem w_X0_judgeJump_0 {r : Int32} {D' : dt} (hC : Cx RX0 cX0_judgeJump 3 (some .int) p s m args meth c) (hR : 4 ≤ R.frames ∧ 100 ≤ R.locals) : ∀ (o0 a0 : Nat) (x1 : Int32) (D : dt) (H : Heap) (locs : List Loc) (ls : Array Slot), Is S ad o0 a0 0 → Wd G cA S D ad A s H locs → lv_has ls 3 [(0, .ref a0), (1, .int x1)] → f_X0_judgeJump S o0 x1 D = some (r, D') → W p l e R s m args below meth c H locs 0 0 (MQ below (Qn (some (.int r)) True (wpost G cA S D' ad A) A) args s 0 0 A) (F0 m 0 ls []) := by
  obtain ⟨hx, hb, -⟩ := id hC
  intro o0 a0 x1 D H locs ls hi0 hw hl h
  unfold f_X0_judgeJump at h
  refine lv_aload_n hx hb dX0_judgeJump_0 rfl (lv_at hl 0 rfl) ?_
  obtain ⟨o27, ho30, h⟩ := rq_i h
  refine r_getR hC hw kc_0 hi0 0 rfl lk_317 dX0_judgeJump_1 rfl ho30 (fun a28 hi29 => ?_)
  refine lv_iload_n hx hb dX0_judgeJump_4 rfl (lv_at hl 1 rfl) ?_
  obtain ⟨r32, hq31, h⟩ := pq_i h
  refine r_cV (st' := [.int r32]) [.int x1] [] hC hw kc_3 hi29 (k_X4_code _ hi29 hq31) mk_X4_code lk_671 ⟨Nat.le_trans (by decide) hR.1, Nat.le_trans (by decide) hR.2⟩ ⟨Nat.zero_le _, Nat.zero_le _⟩ rfl hl.1 rfl rfl (Nat.le_of_ble_eq_true rfl) dX0_judgeJump_5 (fun hP H locs hw => ?_)
  refine lv_istore_n (lv' := [(2, .int r32), (0, .ref a0), (1, .int x1)]) hx hb dX0_judgeJump_8 rfl hl (by decide) rfl (fun ls hl => ?_)
  refine lv_iload_n hx hb dX0_judgeJump_9 rfl (lv_at hl 0 rfl) ?_
  refine lv_bipush (v := 9) hx hb dX0_judgeJump_10 (by decide) ?_
  refine lv_icmp_ne (tgt := 37) hx hb dX0_judgeJump_12 (by decide) (fun c33 => ?_) (fun c33 => ?_)
  · have h := i_no c33 h
    refine lv_iload_n hx hb dX0_judgeJump_37 rfl (lv_at hl 0 rfl) ?_
    refine lv_if_ne (tgt := 61) hx hb dX0_judgeJump_38 (by decide) (fun c34 => ?_) (fun c34 => ?_)
    · have h := i_no c34 h
      refine lv_aload_n hx hb dX0_judgeJump_61 rfl (lv_at hl 1 rfl) ?_
      refine lv_iload_n hx hb dX0_judgeJump_62 rfl (lv_at hl 2 rfl) ?_
      obtain ⟨r36, D37, hq35, h⟩ := cq_i h
      refine r_cV (st' := [.int r36]) [.int x1] [] hC hw kc_0 hi0 (k_X0_judgeBranch _ hi0 hq35) mk_X0_judgeBranch lk_788 ⟨Nat.le_trans (by decide) hR.1, Nat.le_trans (by decide) hR.2⟩ ⟨Nat.zero_le _, Nat.zero_le _⟩ rfl hl.1 rfl rfl (Nat.le_of_ble_eq_true rfl) dX0_judgeJump_63 (fun hP H locs hw => ?_)
      cases h
      exact r_iret hC hw dX0_judgeJump_66
    · have h := i_yes c34 h
      refine lv_aload_n hx hb dX0_judgeJump_41 rfl (lv_at hl 1 rfl) ?_
      refine lv_iload_n hx hb dX0_judgeJump_42 rfl (lv_at hl 2 rfl) ?_
      refine lv_i2l (v := x1.toInt64) hx hb dX0_judgeJump_43 rfl ?_
      refine lv_lconst (v := 1) hx hb dX0_judgeJump_44 (by decide) ?_
      refine lv_ladd hx hb dX0_judgeJump_45 ?_
      refine lv_aload_n hx hb dX0_judgeJump_46 rfl (lv_at hl 1 rfl) ?_
      obtain ⟨o38, ho41, h⟩ := rq_i h
      refine r_getR hC hw kc_0 hi0 0 rfl lk_317 dX0_judgeJump_47 rfl ho41 (fun a39 hi40 => ?_)
      refine lv_iload_n hx hb dX0_judgeJump_50 rfl (lv_at hl 2 rfl) ?_
      obtain ⟨r43, hq42, h⟩ := pq_i h
      refine r_cV (st' := [.int r43, .long (x1.toInt64 + (1 : Int64)), .ref a0]) [.int x1] [.long (x1.toInt64 + (1 : Int64)), .ref a0] hC hw kc_3 hi40 (k_X4_distance _ hi40 hq42) mk_X4_distance lk_784 ⟨Nat.le_trans (by decide) hR.1, Nat.le_trans (by decide) hR.2⟩ ⟨Nat.zero_le _, Nat.zero_le _⟩ rfl hl.1 rfl rfl (Nat.le_of_ble_eq_true rfl) dX0_judgeJump_51 (fun hP H locs hw => ?_)
      refine lv_i2l (v := r43.toInt64) hx hb dX0_judgeJump_54 rfl ?_
      refine lv_ladd hx hb dX0_judgeJump_55 ?_
      refine r_pL hC hw kc_0 hi0 9 rfl lk_327 rfl rfl rfl dX0_judgeJump_56 (fun D44 eD44 H locs hw => ?_)
      have h := nm_i h D44 eD44
      refine lv_iconst (v := 0) hx hb dX0_judgeJump_59 (by decide) ?_
      cases h
      exact r_iret hC hw dX0_judgeJump_60
  · have h := i_yes c33 h
    refine lv_aload_n hx hb dX0_judgeJump_15 rfl (lv_at hl 1 rfl) ?_
    refine lv_iconst (v := 0) hx hb dX0_judgeJump_16 (by decide) ?_
    refine r_pI hC hw kc_0 hi0 8 rfl lk_326 rfl rfl rfl dX0_judgeJump_17 (fun D45 eD45 H locs hw => ?_)
    have h := nm_i h D45 eD45
    refine lv_aload_n hx hb dX0_judgeJump_20 rfl (lv_at hl 1 rfl) ?_
    obtain ⟨o46, ho49, h⟩ := rq_i h
    refine r_getR hC hw kc_0 hi0 4 rfl lk_321 dX0_judgeJump_21 rfl ho49 (fun a47 hi48 => ?_)
    refine lv_iconst (v := 0) hx hb dX0_judgeJump_24 (by decide) ?_
    obtain ⟨r51, hq50, h⟩ := pq_i h
    refine r_cV (st' := [.int r51]) [.int (0 : Int32)] [] hC hw kc_4 hi48 (k_X5_isNumber _ hi48 hq50) mk_X5_isNumber lk_639 ⟨Nat.le_trans (by decide) hR.1, Nat.le_trans (by decide) hR.2⟩ ⟨Nat.zero_le _, Nat.zero_le _⟩ rfl hl.1 rfl rfl (Nat.le_of_ble_eq_true rfl) dX0_judgeJump_25 (fun hP H locs hw => ?_)
    refine lv_if_eq (tgt := 35) hx hb dX0_judgeJump_28 (by decide) (fun c52 => ?_) (fun c52 => ?_)
    · have h := i_yes c52 h
      refine lv_iconst (v := 5) hx hb dX0_judgeJump_35 (by decide) ?_
      cases h
      exact r_iret hC hw dX0_judgeJump_36
    · have h := i_no c52 h
      refine lv_iconst (v := 0) hx hb dX0_judgeJump_31 (by decide) ?_
      refine lv_goto (tgt := 36) hx hb dX0_judgeJump_32 (by decide) ?_
      cases h
      exact r_iret hC hw dX0_judgeJump_36
set_option maxHeartbeats 4000000 in
set_option maxRecDepth 100000 in
theorem k_X0_judgeJump {l : Launch} {G : va_G} {cA : Nat → ClassId} {S : sh} {D D' : dt} {ad : Nat → Nat} (sz : Nat) {o0 a0 : Nat} {x1 : Int32} {r : Int32} (hi0 : Is S ad o0 a0 0) (h : f_X0_judgeJump S o0 x1 D = some (r, D')) : Co l yX0_judgeJump (Cond.code yX0_judgeJump cX0_judgeJump 3 (some .int) :: tb0) 4 100 [.ref a0, .int x1] G cA S D ad sz (some (.int r)) True D' := by
  refine Met.ofW (cc := cX0_judgeJump) (maxL := 3) (ret := (some .int)) (by decide) rfl ?_
  intro p e s m args below meth c s₁ B hml hv
  obtain ⟨rfl, hsz, hP, hK, hD0, hT, hX⟩ := hv
  subst hsz
  have hts := atoms_spec (ws := Cond.code yX0_judgeJump cX0_judgeJump 3 (some .int) :: tb0) B.pre
  have hC : Cx RX0 cX0_judgeJump 3 (some .int) p s m _ meth c := ⟨B.exec, B.bytes, hml, findClass_of_methodNamed B.named, fun w q => hts w (List.mem_cons_of_mem _ q), B.returns, B.notSynchronized⟩
  have hw := Wd.entry hP hK hD0 hT hX
  have hl := lv_entry ([.ref a0, .int x1]) (n := 3) (Nat.le_of_ble_eq_true rfl)
  rw [lg_entry_eq]
  exact w_X0_judgeJump_0 hC ⟨Nat.le_refl _, Nat.le_refl _⟩ o0 a0 x1 D _ _ _ hi0 hw hl h
set_option maxHeartbeats 4000000 in
set_option maxRecDepth 100000 in
theorem w_X0_judgeSlot_147 {r : Int32} {D' : dt} (hC : Cx RX0 cX0_judgeSlot 3 (some .int) p s m args meth c) (hR : 5 ≤ R.frames ∧ 142 ≤ R.locals) : ∀ (o0 a0 : Nat) (x1 : Int32) (D : dt) (H : Heap) (locs : List Loc) (ls : Array Slot), Is S ad o0 a0 0 → Wd G cA S D ad A s H locs → lv_has ls 3 [(0, .ref a0), (1, .int x1)] → f_X0_judgeSlot_147 S o0 x1 D = some (r, D') → W p l e R s m args below meth c H locs 0 0 (MQ below (Qn (some (.int r)) True (wpost G cA S D' ad A) A) args s 0 0 A) (F0 m 147 ls []) := by
  obtain ⟨hx, hb, -⟩ := id hC
  intro o0 a0 x1 D H locs ls hi0 hw hl h
  unfold f_X0_judgeSlot_147 at h
  refine lv_aload_n hx hb dX0_judgeSlot_147 rfl (lv_at hl 0 rfl) ?_
  obtain ⟨o81, ho84, h⟩ := rq_i h
  refine r_getR hC hw kc_0 hi0 0 rfl lk_317 dX0_judgeSlot_148 rfl ho84 (fun a82 hi83 => ?_)
  refine lv_iload_n hx hb dX0_judgeSlot_151 rfl (lv_at hl 1 rfl) ?_
  obtain ⟨r86, hq85, h⟩ := pq_i h
  refine r_cV (st' := [.int r86]) [.int x1] [] hC hw kc_3 hi83 (k_X4_code _ hi83 hq85) mk_X4_code lk_671 ⟨Nat.le_trans (by decide) hR.1, Nat.le_trans (by decide) hR.2⟩ ⟨Nat.zero_le _, Nat.zero_le _⟩ rfl hl.1 rfl rfl (Nat.le_of_ble_eq_true rfl) dX0_judgeSlot_152 (fun hP H locs hw => ?_)
  refine lv_bipush (v := 8) hx hb dX0_judgeSlot_155 (by decide) ?_
  refine lv_icmp_ne (tgt := 177) hx hb dX0_judgeSlot_157 (by decide) (fun c87 => ?_) (fun c87 => ?_)
  · have h := i_no c87 h
    refine lv_aload_n hx hb dX0_judgeSlot_177 rfl (lv_at hl 0 rfl) ?_
    refine lv_iload_n hx hb dX0_judgeSlot_178 rfl (lv_at hl 1 rfl) ?_
    obtain ⟨r89, D90, hq88, h⟩ := cq_i h
    refine r_cV (st' := [.int r89]) [.int x1] [] hC hw kc_0 hi0 (k_X0_judgeJump _ hi0 hq88) mk_X0_judgeJump lk_780 ⟨Nat.le_trans (by decide) hR.1, Nat.le_trans (by decide) hR.2⟩ ⟨Nat.zero_le _, Nat.zero_le _⟩ rfl hl.1 rfl rfl (Nat.le_of_ble_eq_true rfl) dX0_judgeSlot_179 (fun hP H locs hw => ?_)
    cases h
    exact r_iret hC hw dX0_judgeSlot_182
  · have h := i_yes c87 h
    refine lv_aload_n hx hb dX0_judgeSlot_160 rfl (lv_at hl 0 rfl) ?_
    refine lv_iload_n hx hb dX0_judgeSlot_161 rfl (lv_at hl 1 rfl) ?_
    refine lv_aload_n hx hb dX0_judgeSlot_162 rfl (lv_at hl 0 rfl) ?_
    obtain ⟨o91, ho94, h⟩ := rq_i h
    refine r_getR hC hw kc_0 hi0 0 rfl lk_317 dX0_judgeSlot_163 rfl ho94 (fun a92 hi93 => ?_)
    obtain ⟨o95, ho98, h⟩ := rq_i h
    refine r_getR hC hw kc_3 hi93 4 rfl lk_155 dX0_judgeSlot_166 rfl ho98 (fun a96 hi97 => ?_)
    refine lv_iload_n hx hb dX0_judgeSlot_169 rfl (lv_at hl 1 rfl) ?_
    obtain ⟨hn99, h⟩ := ix_i h
    refine r_iald hC hw hi97 hn99 dX0_judgeSlot_170 ?_
    obtain ⟨r101, D102, hq100, h⟩ := cq_i h
    refine r_cV (st' := [.int r101]) [.int x1, .int (gI D o95 x1.toNatClampNeg)] [] hC hw kc_0 hi0 (k_X0_judgeCall _ hi0 hq100) mk_X0_judgeCall lk_769 ⟨Nat.le_trans (by decide) hR.1, Nat.le_trans (by decide) hR.2⟩ ⟨Nat.zero_le _, Nat.zero_le _⟩ rfl hl.1 rfl rfl (Nat.le_of_ble_eq_true rfl) dX0_judgeSlot_171 (fun hP H locs hw => ?_)
    refine lv_goto (tgt := 182) hx hb dX0_judgeSlot_174 (by decide) ?_
    cases h
    exact r_iret hC hw dX0_judgeSlot_182
set_option maxHeartbeats 4000000 in
set_option maxRecDepth 100000 in
theorem w_X0_judgeSlot_141 {r : Int32} {D' : dt} (hC : Cx RX0 cX0_judgeSlot 3 (some .int) p s m args meth c) (hR : 5 ≤ R.frames ∧ 142 ≤ R.locals) : ∀ (o0 a0 : Nat) (x1 : Int32) (D : dt) (H : Heap) (locs : List Loc) (ls : Array Slot), Is S ad o0 a0 0 → Wd G cA S D ad A s H locs → lv_has ls 3 [(0, .ref a0), (1, .int x1)] → f_X0_judgeSlot_141 S o0 x1 D = some (r, D') → W p l e R s m args below meth c H locs 0 0 (MQ below (Qn (some (.int r)) True (wpost G cA S D' ad A) A) args s 0 0 A) (F0 m 141 ls []) := by
  obtain ⟨hx, hb, -⟩ := id hC
  intro o0 a0 x1 D H locs ls hi0 hw hl h
  unfold f_X0_judgeSlot_141 at h
  refine lv_aload_n hx hb dX0_judgeSlot_141 rfl (lv_at hl 0 rfl) ?_
  refine lv_iload_n hx hb dX0_judgeSlot_142 rfl (lv_at hl 1 rfl) ?_
  obtain ⟨r104, D105, hq103, h⟩ := cq_i h
  refine r_cV (st' := [.int r104]) [.int x1] [] hC hw kc_0 hi0 (k_X0_judgeArithmetic _ hi0 hq103) mk_X0_judgeArithmetic lk_667 ⟨Nat.le_trans (by decide) hR.1, Nat.le_trans (by decide) hR.2⟩ ⟨Nat.zero_le _, Nat.zero_le _⟩ rfl hl.1 rfl rfl (Nat.le_of_ble_eq_true rfl) dX0_judgeSlot_143 (fun hP H locs hw => ?_)
  cases h
  exact r_iret hC hw dX0_judgeSlot_146
set_option maxHeartbeats 4000000 in
set_option maxRecDepth 100000 in
theorem w_X0_judgeSlot_0 {r : Int32} {D' : dt} (hC : Cx RX0 cX0_judgeSlot 3 (some .int) p s m args meth c) (hR : 5 ≤ R.frames ∧ 142 ≤ R.locals) : ∀ (o0 a0 : Nat) (x1 : Int32) (o2 a2 : Nat) (D : dt) (H : Heap) (locs : List Loc) (ls : Array Slot), Is S ad o0 a0 0 → Is S ad o2 a2 4 → Wd G cA S D ad A s H locs → lv_has ls 3 [(0, .ref a0), (1, .int x1), (2, .ref a2)] → f_X0_judgeSlot S o0 x1 o2 D = some (r, D') → W p l e R s m args below meth c H locs 0 0 (MQ below (Qn (some (.int r)) True (wpost G cA S D' ad A) A) args s 0 0 A) (F0 m 0 ls []) := by
  obtain ⟨hx, hb, -⟩ := id hC
  intro o0 a0 x1 o2 a2 D H locs ls hi0 hi2 hw hl h
  unfold f_X0_judgeSlot at h
  refine lv_aload_n hx hb dX0_judgeSlot_0 rfl (lv_at hl 0 rfl) ?_
  obtain ⟨o106, ho109, h⟩ := rq_i h
  refine r_getR hC hw kc_0 hi0 0 rfl lk_317 dX0_judgeSlot_1 rfl ho109 (fun a107 hi108 => ?_)
  refine lv_iload_n hx hb dX0_judgeSlot_4 rfl (lv_at hl 1 rfl) ?_
  obtain ⟨r111, hq110, h⟩ := pq_i h
  refine r_cV (st' := [.int r111]) [.int x1] [] hC hw kc_3 hi108 (k_X4_isBad _ hi108 hq110) mk_X4_isBad lk_498 ⟨Nat.le_trans (by decide) hR.1, Nat.le_trans (by decide) hR.2⟩ ⟨Nat.zero_le _, Nat.zero_le _⟩ rfl hl.1 rfl rfl (Nat.le_of_ble_eq_true rfl) dX0_judgeSlot_5 (fun hP H locs hw => ?_)
  refine lv_if_eq (tgt := 13) hx hb dX0_judgeSlot_8 (by decide) (fun c112 => ?_) (fun c112 => ?_)
  · have h := i_yes c112 h
    refine lv_aload_n hx hb dX0_judgeSlot_13 rfl (lv_at hl 0 rfl) ?_
    obtain ⟨o113, ho116, h⟩ := rq_i h
    refine r_getR hC hw kc_0 hi0 4 rfl lk_321 dX0_judgeSlot_14 rfl ho116 (fun a114 hi115 => ?_)
    refine lv_aload_n hx hb dX0_judgeSlot_17 rfl (lv_at hl 2 rfl) ?_
    obtain ⟨_, D118, hq117, h⟩ := cq_i h
    refine r_cV (st' := []) [.ref a2] [] hC hw kc_4 hi115 (k_X5_copyFrom _ hi115 hi2 hq117) mk_X5_copyFrom lk_483 ⟨Nat.le_trans (by decide) hR.1, Nat.le_trans (by decide) hR.2⟩ ⟨Nat.zero_le _, Nat.zero_le _⟩ rfl hl.1 rfl rfl (Nat.le_of_ble_eq_true rfl) dX0_judgeSlot_18 (fun hP H locs hw => ?_)
    refine lv_aload_n hx hb dX0_judgeSlot_21 rfl (lv_at hl 0 rfl) ?_
    refine lv_iconst (v := 1) hx hb dX0_judgeSlot_22 (by decide) ?_
    refine r_pI hC hw kc_0 hi0 8 rfl lk_326 rfl rfl rfl dX0_judgeSlot_23 (fun D119 eD119 H locs hw => ?_)
    have h := nm_i h D119 eD119
    refine lv_aload_n hx hb dX0_judgeSlot_26 rfl (lv_at hl 0 rfl) ?_
    refine lv_iload_n hx hb dX0_judgeSlot_27 rfl (lv_at hl 1 rfl) ?_
    refine lv_iconst (v := 1) hx hb dX0_judgeSlot_28 (by decide) ?_
    refine lv_iadd hx hb dX0_judgeSlot_29 ?_
    refine lv_i2l (v := (x1 + (1 : Int32)).toInt64) hx hb dX0_judgeSlot_30 rfl ?_
    refine r_pL hC hw kc_0 hi0 9 rfl lk_327 rfl rfl rfl dX0_judgeSlot_31 (fun D120 eD120 H locs hw => ?_)
    have h := nm_i h D120 eD120
    refine lv_aload_n hx hb dX0_judgeSlot_34 rfl (lv_at hl 0 rfl) ?_
    refine lv_iconst (v := 0) hx hb dX0_judgeSlot_35 (by decide) ?_
    refine r_pI hC hw kc_0 hi0 10 rfl lk_328 rfl rfl rfl dX0_judgeSlot_36 (fun D121 eD121 H locs hw => ?_)
    have h := nm_i h D121 eD121
    refine lv_aload_n hx hb dX0_judgeSlot_39 rfl (lv_at hl 0 rfl) ?_
    obtain ⟨o122, ho125, h⟩ := rq_i h
    refine r_getR hC hw kc_0 hi0 0 rfl lk_317 dX0_judgeSlot_40 rfl ho125 (fun a123 hi124 => ?_)
    obtain ⟨o126, ho129, h⟩ := rq_i h
    refine r_getR hC hw kc_3 hi124 0 rfl lk_143 dX0_judgeSlot_43 rfl ho129 (fun a127 hi128 => ?_)
    refine lv_iload_n hx hb dX0_judgeSlot_46 rfl (lv_at hl 1 rfl) ?_
    obtain ⟨hn130, h⟩ := ix_i h
    refine r_iald hC hw hi128 hn130 dX0_judgeSlot_47 ?_
    refine lv_bipush (v := 7) hx hb dX0_judgeSlot_48 (by decide) ?_
    refine lv_iand hx hb dX0_judgeSlot_50 ?_
    by_cases c131 : ((gI D121 o126 x1.toNatClampNeg) &&& (7 : Int32)) = 0
    · have h := i_yes c131 h
      refine lv_tableIn (off := 45) (tgt := 96) hx hb dX0_judgeSlot_51 (by rw [c131]; decide) (by rw [c131]; decide) (by rw [c131] <;> rfl) (by decide) ?_
      refine lv_aload_n hx hb dX0_judgeSlot_96 rfl (lv_at hl 0 rfl) ?_
      refine lv_iload_n hx hb dX0_judgeSlot_97 rfl (lv_at hl 1 rfl) ?_
      obtain ⟨r133, D134, hq132, h⟩ := cq_i h
      refine r_cV (st' := [.int r133]) [.int x1] [] hC hw kc_0 hi0 (k_X0_judgePair _ hi0 hq132) mk_X0_judgePair lk_560 ⟨Nat.le_trans (by decide) hR.1, Nat.le_trans (by decide) hR.2⟩ ⟨Nat.zero_le _, Nat.zero_le _⟩ rfl hl.1 rfl rfl (Nat.le_of_ble_eq_true rfl) dX0_judgeSlot_98 (fun hP H locs hw => ?_)
      cases h
      exact r_iret hC hw dX0_judgeSlot_101
    have h := i_no c131 h
    by_cases c135 : ((gI D121 o126 x1.toNatClampNeg) &&& (7 : Int32)) = 1
    · have h := i_yes c135 h
      refine lv_tableIn (off := 51) (tgt := 102) hx hb dX0_judgeSlot_51 (by rw [c135]; decide) (by rw [c135]; decide) (by rw [c135] <;> rfl) (by decide) ?_
      refine lv_aload_n hx hb dX0_judgeSlot_102 rfl (lv_at hl 0 rfl) ?_
      refine lv_iload_n hx hb dX0_judgeSlot_103 rfl (lv_at hl 1 rfl) ?_
      obtain ⟨r137, D138, hq136, h⟩ := cq_i h
      refine r_cV (st' := [.int r137]) [.int x1] [] hC hw kc_0 hi0 (k_X0_judgeLoad _ hi0 hq136) mk_X0_judgeLoad lk_574 ⟨Nat.le_trans (by decide) hR.1, Nat.le_trans (by decide) hR.2⟩ ⟨Nat.zero_le _, Nat.zero_le _⟩ rfl hl.1 rfl rfl (Nat.le_of_ble_eq_true rfl) dX0_judgeSlot_104 (fun hP H locs hw => ?_)
      cases h
      exact r_iret hC hw dX0_judgeSlot_107
    have h := i_no c135 h
    by_cases c139 : ((gI D121 o126 x1.toNatClampNeg) &&& (7 : Int32)) = 2
    · have h := i_yes c139 h
      refine lv_tableIn (off := 57) (tgt := 108) hx hb dX0_judgeSlot_51 (by rw [c139]; decide) (by rw [c139]; decide) (by rw [c139] <;> rfl) (by decide) ?_
      refine lv_aload_n hx hb dX0_judgeSlot_108 rfl (lv_at hl 0 rfl) ?_
      refine lv_iload_n hx hb dX0_judgeSlot_109 rfl (lv_at hl 1 rfl) ?_
      refine lv_iconst (v := 0) hx hb dX0_judgeSlot_110 (by decide) ?_
      obtain ⟨r141, D142, hq140, h⟩ := cq_i h
      refine r_cV (st' := [.int r141]) [.int x1, .int (0 : Int32)] [] hC hw kc_0 hi0 (k_X0_judgePut _ hi0 hq140) mk_X0_judgePut lk_634 ⟨Nat.le_trans (by decide) hR.1, Nat.le_trans (by decide) hR.2⟩ ⟨Nat.zero_le _, Nat.zero_le _⟩ rfl hl.1 rfl rfl (Nat.le_of_ble_eq_true rfl) dX0_judgeSlot_111 (fun hP H locs hw => ?_)
      cases h
      exact r_iret hC hw dX0_judgeSlot_114
    have h := i_no c139 h
    by_cases c143 : ((gI D121 o126 x1.toNatClampNeg) &&& (7 : Int32)) = 3
    · have h := i_yes c143 h
      refine lv_tableIn (off := 64) (tgt := 115) hx hb dX0_judgeSlot_51 (by rw [c143]; decide) (by rw [c143]; decide) (by rw [c143] <;> rfl) (by decide) ?_
      refine lv_aload_n hx hb dX0_judgeSlot_115 rfl (lv_at hl 0 rfl) ?_
      obtain ⟨o144, ho147, h⟩ := rq_i h
      refine r_getR hC hw kc_0 hi0 0 rfl lk_317 dX0_judgeSlot_116 rfl ho147 (fun a145 hi146 => ?_)
      refine lv_iload_n hx hb dX0_judgeSlot_119 rfl (lv_at hl 1 rfl) ?_
      obtain ⟨r149, hq148, h⟩ := pq_i h
      refine r_cV (st' := [.int r149]) [.int x1] [] hC hw kc_3 hi146 (k_X4_isPlainPut _ hi146 hq148) mk_X4_isPlainPut lk_662 ⟨Nat.le_trans (by decide) hR.1, Nat.le_trans (by decide) hR.2⟩ ⟨Nat.zero_le _, Nat.zero_le _⟩ rfl hl.1 rfl rfl (Nat.le_of_ble_eq_true rfl) dX0_judgeSlot_120 (fun hP H locs hw => ?_)
      refine lv_if_eq (tgt := 135) hx hb dX0_judgeSlot_123 (by decide) (fun c150 => ?_) (fun c150 => ?_)
      · have h := i_yes c150 h
        refine lv_aload_n hx hb dX0_judgeSlot_135 rfl (lv_at hl 0 rfl) ?_
        refine lv_iload_n hx hb dX0_judgeSlot_136 rfl (lv_at hl 1 rfl) ?_
        obtain ⟨r152, D153, hq151, h⟩ := cq_i h
        refine r_cV (st' := [.int r152]) [.int x1] [] hC hw kc_0 hi0 (k_X0_judgeChange _ hi0 hq151) mk_X0_judgeChange lk_663 ⟨Nat.le_trans (by decide) hR.1, Nat.le_trans (by decide) hR.2⟩ ⟨Nat.zero_le _, Nat.zero_le _⟩ rfl hl.1 rfl rfl (Nat.le_of_ble_eq_true rfl) dX0_judgeSlot_137 (fun hP H locs hw => ?_)
        cases h
        exact r_iret hC hw dX0_judgeSlot_140
      · have h := i_no c150 h
        refine lv_aload_n hx hb dX0_judgeSlot_126 rfl (lv_at hl 0 rfl) ?_
        refine lv_iload_n hx hb dX0_judgeSlot_127 rfl (lv_at hl 1 rfl) ?_
        refine lv_iconst (v := 1) hx hb dX0_judgeSlot_128 (by decide) ?_
        obtain ⟨r155, D156, hq154, h⟩ := cq_i h
        refine r_cV (st' := [.int r155]) [.int x1, .int (1 : Int32)] [] hC hw kc_0 hi0 (k_X0_judgePut _ hi0 hq154) mk_X0_judgePut lk_634 ⟨Nat.le_trans (by decide) hR.1, Nat.le_trans (by decide) hR.2⟩ ⟨Nat.zero_le _, Nat.zero_le _⟩ rfl hl.1 rfl rfl (Nat.le_of_ble_eq_true rfl) dX0_judgeSlot_129 (fun hP H locs hw => ?_)
        refine lv_goto (tgt := 140) hx hb dX0_judgeSlot_132 (by decide) ?_
        cases h
        exact r_iret hC hw dX0_judgeSlot_140
    have h := i_no c143 h
    by_cases c157 : ((gI D121 o126 x1.toNatClampNeg) &&& (7 : Int32)) = 4
    · have h := i_yes c157 h
      refine lv_tableIn (off := 90) (tgt := 141) hx hb dX0_judgeSlot_51 (by rw [c157]; decide) (by rw [c157]; decide) (by rw [c157] <;> rfl) (by decide) ?_
      exact w_X0_judgeSlot_141 hC hR o0 a0 x1 _ _ _ _ hi0 hw (lv_sub hl [0, 1] rfl) h
    have h := i_no c157 h
    by_cases c158 : ((gI D121 o126 x1.toNatClampNeg) &&& (7 : Int32)) = 5
    · have h := i_yes c158 h
      refine lv_tableIn (off := 96) (tgt := 147) hx hb dX0_judgeSlot_51 (by rw [c158]; decide) (by rw [c158]; decide) (by rw [c158] <;> rfl) (by decide) ?_
      exact w_X0_judgeSlot_147 hC hR o0 a0 x1 _ _ _ _ hi0 hw (lv_sub hl [0, 1] rfl) h
    have h := i_no c158 h
    by_cases c159 : ((gI D121 o126 x1.toNatClampNeg) &&& (7 : Int32)) = 6
    · have h := i_yes c159 h
      refine lv_tableIn (off := 96) (tgt := 147) hx hb dX0_judgeSlot_51 (by rw [c159]; decide) (by rw [c159]; decide) (by rw [c159] <;> rfl) (by decide) ?_
      exact w_X0_judgeSlot_147 hC hR o0 a0 x1 _ _ _ _ hi0 hw (lv_sub hl [0, 1] rfl) h
    have h := i_no c159 h
    by_cases c160 : ((gI D121 o126 x1.toNatClampNeg) &&& (7 : Int32)) = 7
    · have h := i_yes c160 h
      refine lv_tableIn (off := 90) (tgt := 141) hx hb dX0_judgeSlot_51 (by rw [c160]; decide) (by rw [c160]; decide) (by rw [c160] <;> rfl) (by decide) ?_
      exact w_X0_judgeSlot_141 hC hR o0 a0 x1 _ _ _ _ hi0 hw (lv_sub hl [0, 1] rfl) h
    have h := i_no c160 h
    refine lv_tableOut (tgt := 147) hx hb dX0_judgeSlot_51 (by have nc131 := lv_neT c131 (a := 0) rfl; have nc135 := lv_neT c135 (a := 1) rfl; have nc139 := lv_neT c139 (a := 2) rfl; have nc143 := lv_neT c143 (a := 3) rfl; have nc157 := lv_neT c157 (a := 4) rfl; have nc158 := lv_neT c158 (a := 5) rfl; have nc159 := lv_neT c159 (a := 6) rfl; have nc160 := lv_neT c160 (a := 7) rfl; omega) (by decide) ?_
    exact w_X0_judgeSlot_147 hC hR o0 a0 x1 _ _ _ _ hi0 hw (lv_sub hl [0, 1] rfl) h
  · have h := i_no c112 h
    refine lv_iconst (v := 1) hx hb dX0_judgeSlot_11 (by decide) ?_
    cases h
    exact r_iret hC hw dX0_judgeSlot_12
set_option maxHeartbeats 4000000 in
set_option maxRecDepth 100000 in
theorem k_X0_judgeSlot {l : Launch} {G : va_G} {cA : Nat → ClassId} {S : sh} {D D' : dt} {ad : Nat → Nat} (sz : Nat) {o0 a0 : Nat} {x1 : Int32} {o2 a2 : Nat} {r : Int32} (hi0 : Is S ad o0 a0 0) (hi2 : Is S ad o2 a2 4) (h : f_X0_judgeSlot S o0 x1 o2 D = some (r, D')) : Co l yX0_judgeSlot (Cond.code yX0_judgeSlot cX0_judgeSlot 3 (some .int) :: tb0) 5 142 [.ref a0, .int x1, .ref a2] G cA S D ad sz (some (.int r)) True D' := by
  refine Met.ofW (cc := cX0_judgeSlot) (maxL := 3) (ret := (some .int)) (by decide) rfl ?_
  intro p e s m args below meth c s₁ B hml hv
  obtain ⟨rfl, hsz, hP, hK, hD0, hT, hX⟩ := hv
  subst hsz
  have hts := atoms_spec (ws := Cond.code yX0_judgeSlot cX0_judgeSlot 3 (some .int) :: tb0) B.pre
  have hC : Cx RX0 cX0_judgeSlot 3 (some .int) p s m _ meth c := ⟨B.exec, B.bytes, hml, findClass_of_methodNamed B.named, fun w q => hts w (List.mem_cons_of_mem _ q), B.returns, B.notSynchronized⟩
  have hw := Wd.entry hP hK hD0 hT hX
  have hl := lv_entry ([.ref a0, .int x1, .ref a2]) (n := 3) (Nat.le_of_ble_eq_true rfl)
  rw [lg_entry_eq]
  exact w_X0_judgeSlot_0 hC ⟨Nat.le_refl _, Nat.le_refl _⟩ o0 a0 x1 o2 a2 D _ _ _ hi0 hi2 hw hl h
set_option maxHeartbeats 4000000 in
set_option maxRecDepth 100000 in
theorem w_X0_canGoOn_0 {r : Int32} (hC : Cx RX0 cX0_canGoOn 4 (some .boolean) p s m args meth c) (hR : 0 ≤ R.frames ∧ 0 ≤ R.locals) : ∀ (o0 a0 : Nat) (x1 : Int32) (x2 : Int64) (H : Heap) (locs : List Loc) (ls : Array Slot), Is S ad o0 a0 0 → Wd G cA S D ad A s H locs → lv_has ls 4 [(0, .ref a0), (1, .int x1), (2, .long x2)] → f_X0_canGoOn S D o0 x1 x2 = some r → W p l e R s m args below meth c H locs 0 0 (MQ below (Qn (some (.int r)) True (wpost G cA S D ad A) A) args s 0 0 A) (F0 m 0 ls []) := by
  obtain ⟨hx, hb, -⟩ := id hC
  intro o0 a0 x1 x2 H locs ls hi0 hw hl h
  unfold f_X0_canGoOn at h
  refine lv_lload_n hx hb dX0_canGoOn_0 rfl (lv_at hl 2 rfl) ?_
  refine lv_iload_n hx hb dX0_canGoOn_1 rfl (lv_at hl 1 rfl) ?_
  refine lv_i2l (v := x1.toInt64) hx hb dX0_canGoOn_2 rfl ?_
  refine W.lcmp hx hb dX0_canGoOn_3 ?_
  refine lv_if_le (tgt := 34) hx hb dX0_canGoOn_4 (by decide) (fun c13 => ?_) (fun c13 => ?_)
  · have h := i_yes c13 h
    refine lv_iconst (v := 0) hx hb dX0_canGoOn_34 (by decide) ?_
    cases h
    exact r_zret hC hw (Or.inl rfl) dX0_canGoOn_35
  · have h := i_no c13 h
    refine lv_lload_n hx hb dX0_canGoOn_7 rfl (lv_at hl 2 rfl) ?_
    refine lv_aload_n hx hb dX0_canGoOn_8 rfl (lv_at hl 0 rfl) ?_
    obtain ⟨o14, ho17, h⟩ := rq_i h
    refine r_getR hC hw kc_0 hi0 0 rfl lk_317 dX0_canGoOn_9 rfl ho17 (fun a15 hi16 => ?_)
    refine r_gI hC hw kc_3 hi16 5 rfl lk_158 dX0_canGoOn_12 ?_
    refine lv_i2l (v := (gI D o14 5).toInt64) hx hb dX0_canGoOn_15 rfl ?_
    refine W.lcmp hx hb dX0_canGoOn_16 ?_
    refine lv_if_ge (tgt := 34) hx hb dX0_canGoOn_17 (by decide) (fun c18 => ?_) (fun c18 => ?_)
    · have h := i_yes c18 h
      refine lv_iconst (v := 0) hx hb dX0_canGoOn_34 (by decide) ?_
      cases h
      exact r_zret hC hw (Or.inl rfl) dX0_canGoOn_35
    · have h := i_no c18 h
      refine lv_aload_n hx hb dX0_canGoOn_20 rfl (lv_at hl 0 rfl) ?_
      obtain ⟨o19, ho22, h⟩ := rq_i h
      refine r_getR hC hw kc_0 hi0 3 rfl lk_320 dX0_canGoOn_21 rfl ho22 (fun a20 hi21 => ?_)
      refine lv_lload_n hx hb dX0_canGoOn_24 rfl (lv_at hl 2 rfl) ?_
      refine lv_l2i (v := x2.toInt32) hx hb dX0_canGoOn_25 rfl ?_
      obtain ⟨hn23, h⟩ := ix_i h
      refine r_zald hC hw hi21 hn23 dX0_canGoOn_26 ?_
      refine lv_if_ne (tgt := 34) hx hb dX0_canGoOn_27 (by decide) (fun c24 => ?_) (fun c24 => ?_)
      · have h := i_no c24 h
        refine lv_iconst (v := 0) hx hb dX0_canGoOn_34 (by decide) ?_
        cases h
        exact r_zret hC hw (Or.inl rfl) dX0_canGoOn_35
      · have h := i_yes c24 h
        refine lv_iconst (v := 1) hx hb dX0_canGoOn_30 (by decide) ?_
        refine lv_goto (tgt := 35) hx hb dX0_canGoOn_31 (by decide) ?_
        cases h
        exact r_zret hC hw (Or.inr rfl) dX0_canGoOn_35
set_option maxHeartbeats 4000000 in
set_option maxRecDepth 100000 in
theorem k_X0_canGoOn {l : Launch} {G : va_G} {cA : Nat → ClassId} {S : sh} {D : dt} {ad : Nat → Nat} (sz : Nat) {o0 a0 : Nat} {x1 : Int32} {x2 : Int64} {r : Int32} (hi0 : Is S ad o0 a0 0) (h : f_X0_canGoOn S D o0 x1 x2 = some r) : Co l yX0_canGoOn (Cond.code yX0_canGoOn cX0_canGoOn 4 (some .boolean) :: tb0) 0 0 [.ref a0, .int x1, .long x2] G cA S D ad sz (some (.int r)) True D := by
  refine Met.ofW (cc := cX0_canGoOn) (maxL := 4) (ret := (some .boolean)) (by decide) rfl ?_
  intro p e s m args below meth c s₁ B hml hv
  obtain ⟨rfl, hsz, hP, hK, hD0, hT, hX⟩ := hv
  subst hsz
  have hts := atoms_spec (ws := Cond.code yX0_canGoOn cX0_canGoOn 4 (some .boolean) :: tb0) B.pre
  have hC : Cx RX0 cX0_canGoOn 4 (some .boolean) p s m _ meth c := ⟨B.exec, B.bytes, hml, findClass_of_methodNamed B.named, fun w q => hts w (List.mem_cons_of_mem _ q), B.returns, B.notSynchronized⟩
  have hw := Wd.entry hP hK hD0 hT hX
  have hl := lv_entry ([.ref a0, .int x1, .long x2]) (n := 4) (Nat.le_of_ble_eq_true rfl)
  rw [lg_entry_eq]
  exact w_X0_canGoOn_0 hC ⟨Nat.le_refl _, Nat.le_refl _⟩ o0 a0 x1 x2 _ _ _ hi0 hw hl h
theorem mn_X0_comeTo_22 {r : Unit} {S' : sh} {D' : dt} {o0 : Nat} {x1 : Int32} {o2 : Nat} {S : sh} {D : dt} (h : f_X0_comeTo_22 o0 x1 o2 S D = some (r, S', D')) : Ext S S' := by
  unfold f_X0_comeTo_22 at h
  obtain ⟨o68, ho71, h⟩ := rq_i h
  obtain ⟨hn72, h⟩ := ix_i h
  rcases oq_i h with ⟨ho76, h⟩ | ⟨o73, ho76, h⟩
  · skip
    cases h
  · skip
    rcases (Decidable.em ((gI D o73 0) = 0)) with c77 | c77
    · have h := i_yes c77 h
      obtain ⟨o78, ho81, h⟩ := rq_i h
      obtain ⟨hn82, h⟩ := ix_i h
      rcases oq_i h with ⟨ho86, h⟩ | ⟨o83, ho86, h⟩
      · skip
        cases h
      · skip
        obtain ⟨_, D88, hq87, h⟩ := cq_i h
        cases h
        exact Ext.rf _
    · have h := i_no c77 h
      obtain ⟨o89, ho92, h⟩ := rq_i h
      obtain ⟨hn93, h⟩ := ix_i h
      rcases oq_i h with ⟨ho97, h⟩ | ⟨o94, ho97, h⟩
      · skip
        cases h
      · skip
        obtain ⟨_, D99, hq98, h⟩ := cq_i h
        cases h
        exact Ext.rf _
set_option maxHeartbeats 4000000 in
set_option maxRecDepth 100000 in
theorem w_X0_comeTo_22 {r : Unit} {S' : sh} {D' : dt} {S0 : sh} {ad0 : Nat → Nat} (hC : Cx RX0 cX0_comeTo 3 none p s m args meth c) (hR : 3 ≤ R.frames ∧ 79 ≤ R.locals) (ho : R.cells = sN S' - sN S0 ∧ R.slots = sZ S' - sZ S0) : ∀ (o0 a0 : Nat) (x1 : Int32) (o2 a2 : Nat) (S : sh) (D : dt) (ad : Nat → Nat) (H : Heap) (locs : List Loc) (ls : Array Slot) (cells slots : Nat), Is S ad o0 a0 0 → Is S ad o2 a2 4 → Wd G cA S D ad A s H locs → Al S0 ad0 S ad cells slots → lv_has ls 3 [(0, .ref a0), (1, .int x1), (2, .ref a2)] → f_X0_comeTo_22 o0 x1 o2 S D = some (r, S', D') → W p l e R s m args below meth c H locs cells slots (MQ below (Qa (fun _ => none) (fun ad' => (∀ k, k < sN S0 → ad' k = ad0 k) ∧ True) (fun ad' => wpost G cA S' D' ad' A) A) args s (sN S' - sN S0) (sZ S' - sZ S0) A) (F0 m 22 ls []) := by
  obtain ⟨hx, hb, -⟩ := id hC
  intro o0 a0 x1 o2 a2 S D ad H locs ls cells slots hi0 hi2 hw hc hl h
  have hE : Ext S S' := mn_X0_comeTo_22  h
  unfold f_X0_comeTo_22 at h
  refine lv_aload_n hx hb dX0_comeTo_22 rfl (lv_at hl 0 rfl) ?_
  obtain ⟨o68, ho71, h⟩ := rq_i h
  refine r_getR hC hw kc_0 hi0 2 rfl lk_319 dX0_comeTo_23 rfl ho71 (fun a69 hi70 => ?_)
  refine lv_iload_n hx hb dX0_comeTo_26 rfl (lv_at hl 1 rfl) ?_
  obtain ⟨hn72, h⟩ := ix_i h
  rcases oq_i h with ⟨ho76, h⟩ | ⟨o73, ho76, h⟩
  · refine r_aaldN hC hw hi70 (by decide) 4 rfl hn72 dX0_comeTo_27 ho76 ?_
    cases h
  · refine r_aald hC hw hi70 (by decide) 4 rfl hn72 dX0_comeTo_27 (fun _ => rfl) ho76 (fun a74 hi75 => ?_)
    refine r_gI hC hw kc_4 hi75 0 rfl lk_263 dX0_comeTo_28 ?_
    refine lv_if_eq (tgt := 47) hx hb dX0_comeTo_31 (by decide) (fun c77 => ?_) (fun c77 => ?_)
    · have h := i_yes c77 h
      refine lv_aload_n hx hb dX0_comeTo_47 rfl (lv_at hl 0 rfl) ?_
      obtain ⟨o78, ho81, h⟩ := rq_i h
      refine r_getR hC hw kc_0 hi0 2 rfl lk_319 dX0_comeTo_48 rfl ho81 (fun a79 hi80 => ?_)
      refine lv_iload_n hx hb dX0_comeTo_51 rfl (lv_at hl 1 rfl) ?_
      obtain ⟨hn82, h⟩ := ix_i h
      rcases oq_i h with ⟨ho86, h⟩ | ⟨o83, ho86, h⟩
      · refine r_aaldN hC hw hi80 (by decide) 4 rfl hn82 dX0_comeTo_52 ho86 ?_
        refine lv_aload_n hx hb dX0_comeTo_53 rfl (lv_at hl 2 rfl) ?_
        cases h
      · refine r_aald hC hw hi80 (by decide) 4 rfl hn82 dX0_comeTo_52 (fun _ => rfl) ho86 (fun a84 hi85 => ?_)
        refine lv_aload_n hx hb dX0_comeTo_53 rfl (lv_at hl 2 rfl) ?_
        obtain ⟨_, D88, hq87, h⟩ := cq_i h
        refine r_cV (st' := []) [.ref a2] [] hC hw kc_4 hi85 (k_X5_copyFrom _ hi85 hi2 hq87) mk_X5_copyFrom lk_483 ⟨Nat.le_trans (by decide) hR.1, Nat.le_trans (by decide) hR.2⟩ (hc.le ho hE) rfl hl.1 rfl rfl (Nat.le_of_ble_eq_true rfl) dX0_comeTo_54 (fun hP H locs hw => ?_)
        cases h
        exact r_vretA hC hw hc dX0_comeTo_57
    · have h := i_no c77 h
      refine lv_aload_n hx hb dX0_comeTo_34 rfl (lv_at hl 0 rfl) ?_
      obtain ⟨o89, ho92, h⟩ := rq_i h
      refine r_getR hC hw kc_0 hi0 2 rfl lk_319 dX0_comeTo_35 rfl ho92 (fun a90 hi91 => ?_)
      refine lv_iload_n hx hb dX0_comeTo_38 rfl (lv_at hl 1 rfl) ?_
      obtain ⟨hn93, h⟩ := ix_i h
      rcases oq_i h with ⟨ho97, h⟩ | ⟨o94, ho97, h⟩
      · refine r_aaldN hC hw hi91 (by decide) 4 rfl hn93 dX0_comeTo_39 ho97 ?_
        refine lv_aload_n hx hb dX0_comeTo_40 rfl (lv_at hl 2 rfl) ?_
        cases h
      · refine r_aald hC hw hi91 (by decide) 4 rfl hn93 dX0_comeTo_39 (fun _ => rfl) ho97 (fun a95 hi96 => ?_)
        refine lv_aload_n hx hb dX0_comeTo_40 rfl (lv_at hl 2 rfl) ?_
        obtain ⟨_, D99, hq98, h⟩ := cq_i h
        refine r_cV (st' := []) [.ref a2] [] hC hw kc_4 hi96 (k_X5_joinWith _ hi96 hi2 hq98) mk_X5_joinWith lk_843 ⟨Nat.le_trans (by decide) hR.1, Nat.le_trans (by decide) hR.2⟩ (hc.le ho hE) rfl hl.1 rfl rfl (Nat.le_of_ble_eq_true rfl) dX0_comeTo_41 (fun hP H locs hw => ?_)
        refine lv_goto (tgt := 57) hx hb dX0_comeTo_44 (by decide) ?_
        cases h
        exact r_vretA hC hw hc dX0_comeTo_57
theorem mn_X0_comeTo_21 {r : Unit} {S' : sh} {D' : dt} {o0 : Nat} {x1 : Int32} {o2 : Nat} {os0 : Nat} {xs1 : Int32} {os2 : Nat} {S : sh} {D : dt} (h : f_X0_comeTo_21 o0 x1 o2 os0 xs1 os2 S D = some (r, S', D')) : Ext S S' := by
  unfold f_X0_comeTo_21 at h
  obtain ⟨hn100, h⟩ := ix_i h
  have h := nm_i h _ rfl
  exact (mn_X0_comeTo_22 h)
set_option maxHeartbeats 4000000 in
set_option maxRecDepth 100000 in
theorem w_X0_comeTo_21 {r : Unit} {S' : sh} {D' : dt} {S0 : sh} {ad0 : Nat → Nat} (hC : Cx RX0 cX0_comeTo 3 none p s m args meth c) (hR : 3 ≤ R.frames ∧ 79 ≤ R.locals) (ho : R.cells = sN S' - sN S0 ∧ R.slots = sZ S' - sZ S0) : ∀ (o0 a0 : Nat) (x1 : Int32) (o2 a2 : Nat) (os0 as0 : Nat) (xs1 : Int32) (os2 as2 : Nat) (S : sh) (D : dt) (ad : Nat → Nat) (H : Heap) (locs : List Loc) (ls : Array Slot) (cells slots : Nat), Is S ad o0 a0 0 → Is S ad o2 a2 4 → Is S ad os0 as0 204 → Is S ad os2 as2 4 → Wd G cA S D ad A s H locs → Al S0 ad0 S ad cells slots → lv_has ls 3 [(0, .ref a0), (1, .int x1), (2, .ref a2)] → f_X0_comeTo_21 o0 x1 o2 os0 xs1 os2 S D = some (r, S', D') → W p l e R s m args below meth c H locs cells slots (MQ below (Qa (fun _ => none) (fun ad' => (∀ k, k < sN S0 → ad' k = ad0 k) ∧ True) (fun ad' => wpost G cA S' D' ad' A) A) args s (sN S' - sN S0) (sZ S' - sZ S0) A) (F0 m 21 ls [.ref as2, .int xs1, .ref as0]) := by
  obtain ⟨hx, hb, -⟩ := id hC
  intro o0 a0 x1 o2 a2 os0 as0 xs1 os2 as2 S D ad H locs ls cells slots hi0 hi2 his0 his2 hw hc hl h
  have hE : Ext S S' := mn_X0_comeTo_21  h
  unfold f_X0_comeTo_21 at h
  obtain ⟨hn100, h⟩ := ix_i h
  refine r_aas hC hw his0 (by decide) 4 kc_4 rfl his2 (fun _ => rfl) hn100 dX0_comeTo_21 (fun D101 eD101 H locs hw => ?_)
  have h := nm_i h D101 eD101
  exact w_X0_comeTo_22 hC hR ho o0 a0 x1 o2 a2 _ _ _ _ _ _ _ _ hi0 hi2 hw hc (lv_sub hl [0, 1, 2] rfl) h --j102
theorem mn_X0_comeTo_17 {r : Unit} {S' : sh} {D' : dt} {o0 : Nat} {x1 : Int32} {o2 : Nat} {os0 : Nat} {xs1 : Int32} {os2 : Nat} {S : sh} {D : dt} (h : f_X0_comeTo_17 o0 x1 o2 os0 xs1 os2 S D = some (r, S', D')) : Ext S S' := by
  unfold f_X0_comeTo_17 at h
  obtain ⟨_, S105, D104, hq103, h⟩ := c3_i h
  have hA := mn_X5_init_0 hq103
  exact hA.tr (mn_X0_comeTo_21 h)
set_option maxHeartbeats 4000000 in
set_option maxRecDepth 100000 in
theorem w_X0_comeTo_17 {r : Unit} {S' : sh} {D' : dt} {S0 : sh} {ad0 : Nat → Nat} (hC : Cx RX0 cX0_comeTo 3 none p s m args meth c) (hR : 3 ≤ R.frames ∧ 79 ≤ R.locals) (ho : R.cells = sN S' - sN S0 ∧ R.slots = sZ S' - sZ S0) : ∀ (o0 a0 : Nat) (x1 : Int32) (o2 a2 : Nat) (os0 as0 : Nat) (xs1 : Int32) (os2 as2 : Nat) (S : sh) (D : dt) (ad : Nat → Nat) (H : Heap) (locs : List Loc) (ls : Array Slot) (cells slots : Nat), Is S ad o0 a0 0 → Is S ad o2 a2 4 → Is S ad os0 as0 204 → Is S ad os2 as2 4 → Wd G cA S D ad A s H locs → Al S0 ad0 S ad cells slots → lv_has ls 3 [(0, .ref a0), (1, .int x1), (2, .ref a2)] → f_X0_comeTo_17 o0 x1 o2 os0 xs1 os2 S D = some (r, S', D') → W p l e R s m args below meth c H locs cells slots (MQ below (Qa (fun _ => none) (fun ad' => (∀ k, k < sN S0 → ad' k = ad0 k) ∧ True) (fun ad' => wpost G cA S' D' ad' A) A) args s (sN S' - sN S0) (sZ S' - sZ S0) A) (F0 m 17 ls [.ref as2, .int xs1, .ref as0]) := by
  obtain ⟨hx, hb, -⟩ := id hC
  intro o0 a0 x1 o2 a2 os0 as0 xs1 os2 as2 S D ad H locs ls cells slots hi0 hi2 his0 his2 hw hc hl h
  have hE : Ext S S' := mn_X0_comeTo_17  h
  unfold f_X0_comeTo_17 at h
  refine lv_dup hx hb dX0_comeTo_17 rfl ?_
  obtain ⟨_, S105, D104, hq103, h⟩ := c3_i h
  have hE106 := mn_X5_init_0 hq103
  have hE107 := mn_X0_comeTo_21 h
  refine r_cINA [] [.ref as2, .int xs1, .ref as0] hC hw (k_X5_init _ his2 hq103) mk_X5_init hw.2.2.2.2.2.2.n2 ⟨Nat.le_trans (by decide) hR.1, Nat.le_trans (by decide) hR.2⟩ (hc.roomC ho hE106 hE107) rfl hl.1 rfl (Nat.le_of_ble_eq_true rfl) dX0_comeTo_18 (fun ad108 hP H locs hw => ?_)
  refine W.eq (g2 := F0 m 21 ls [.ref as2, .int xs1, .ref as0]) rfl ?_
  have hi109 := Is.up his2 hE106 hP.1
  have hi110 := Is.up his0 hE106 hP.1
  have hi111 := Is.up hi0 hE106 hP.1
  have hi112 := Is.up hi2 hE106 hP.1
  have hc := hc.call hE106 hP.1
  exact w_X0_comeTo_21 hC hR ho o0 a0 x1 o2 a2 os0 as0 xs1 os2 as2 _ _ _ _ _ _ _ _ hi111 hi112 hi110 hi109 hw hc (lv_sub hl [0, 1, 2] rfl) h --j113
theorem mn_X0_comeTo_0 {r : Unit} {S' : sh} {D' : dt} {o0 : Nat} {x1 : Int32} {o2 : Nat} {S : sh} {D : dt} (h : f_X0_comeTo o0 x1 o2 S D = some (r, S', D')) : Ext S S' := by
  unfold f_X0_comeTo at h
  obtain ⟨o114, ho117, h⟩ := rq_i h
  obtain ⟨hn118, h⟩ := ix_i h
  rcases oq_i h with ⟨ho122, h⟩ | ⟨o119, ho122, h⟩
  · skip
    obtain ⟨o123, ho126, h⟩ := rq_i h
    have hA := (Ext.aS S 4 0 6)
    exact hA.tr (mn_X0_comeTo_17 h)
  · skip
    exact (mn_X0_comeTo_22 h)
set_option maxHeartbeats 4000000 in
set_option maxRecDepth 100000 in
theorem w_X0_comeTo_0 {r : Unit} {S' : sh} {D' : dt} {S0 : sh} {ad0 : Nat → Nat} (hC : Cx RX0 cX0_comeTo 3 none p s m args meth c) (hR : 3 ≤ R.frames ∧ 79 ≤ R.locals) (ho : R.cells = sN S' - sN S0 ∧ R.slots = sZ S' - sZ S0) : ∀ (o0 a0 : Nat) (x1 : Int32) (o2 a2 : Nat) (S : sh) (D : dt) (ad : Nat → Nat) (H : Heap) (locs : List Loc) (ls : Array Slot) (cells slots : Nat), Is S ad o0 a0 0 → Is S ad o2 a2 4 → Wd G cA S D ad A s H locs → Al S0 ad0 S ad cells slots → lv_has ls 3 [(0, .ref a0), (1, .int x1), (2, .ref a2)] → f_X0_comeTo o0 x1 o2 S D = some (r, S', D') → W p l e R s m args below meth c H locs cells slots (MQ below (Qa (fun _ => none) (fun ad' => (∀ k, k < sN S0 → ad' k = ad0 k) ∧ True) (fun ad' => wpost G cA S' D' ad' A) A) args s (sN S' - sN S0) (sZ S' - sZ S0) A) (F0 m 0 ls []) := by
  obtain ⟨hx, hb, -⟩ := id hC
  intro o0 a0 x1 o2 a2 S D ad H locs ls cells slots hi0 hi2 hw hc hl h
  have hE : Ext S S' := mn_X0_comeTo_0  h
  unfold f_X0_comeTo at h
  refine lv_aload_n hx hb dX0_comeTo_0 rfl (lv_at hl 0 rfl) ?_
  obtain ⟨o114, ho117, h⟩ := rq_i h
  refine r_getR hC hw kc_0 hi0 2 rfl lk_319 dX0_comeTo_1 rfl ho117 (fun a115 hi116 => ?_)
  refine lv_iload_n hx hb dX0_comeTo_4 rfl (lv_at hl 1 rfl) ?_
  obtain ⟨hn118, h⟩ := ix_i h
  rcases oq_i h with ⟨ho122, h⟩ | ⟨o119, ho122, h⟩
  · refine r_aaldN hC hw hi116 (by decide) 4 rfl hn118 dX0_comeTo_5 ho122 ?_
    refine lv_ifnonnullN hx hb dX0_comeTo_6 ?_
    refine lv_aload_n hx hb dX0_comeTo_9 rfl (lv_at hl 0 rfl) ?_
    obtain ⟨o123, ho126, h⟩ := rq_i h
    refine r_getR hC hw kc_0 hi0 2 rfl lk_319 dX0_comeTo_10 rfl ho126 (fun a124 hi125 => ?_)
    refine lv_iload_n hx hb dX0_comeTo_13 rfl (lv_at hl 1 rfl) ?_
    have hE129 := mn_X0_comeTo_17 h
    refine r_new hC hw kc_4 df_4 lk_256 lk_258 lk_119 (hc.room ho hE129).1 (hc.room ho hE129).2 dX0_comeTo_14 (fun q127 H hw hi128 => ?_)
    have hi130 := Is.up hi125 (Ext.aS S 4 0 6) (up_lt (q := q127))
    have hi131 := Is.up hi0 (Ext.aS S 4 0 6) (up_lt (q := q127))
    have hi132 := Is.up hi2 (Ext.aS S 4 0 6) (up_lt (q := q127))
    have hc := hc.new 4 0 6 q127
    exact w_X0_comeTo_17 hC hR ho o0 a0 x1 o2 a2 o123 a124 x1 (sN S) q127 _ _ _ _ _ _ _ _ hi131 hi132 hi130 hi128 hw hc (lv_sub hl [0, 1, 2] rfl) h --j133
  · refine r_aald hC hw hi116 (by decide) 4 rfl hn118 dX0_comeTo_5 (fun _ => rfl) ho122 (fun a120 hi121 => ?_)
    refine lv_ifnonnull (tgt := 22) hx hb dX0_comeTo_6 (by decide) ?_
    exact w_X0_comeTo_22 hC hR ho o0 a0 x1 o2 a2 _ _ _ _ _ _ _ _ hi0 hi2 hw hc (lv_sub hl [0, 1, 2] rfl) h --j134
set_option maxHeartbeats 4000000 in
set_option maxRecDepth 100000 in
theorem k_X0_comeTo {l : Launch} {G : va_G} {cA : Nat → ClassId} {S S' : sh} {D D' : dt} {ad : Nat → Nat} (sz : Nat) {o0 a0 : Nat} {x1 : Int32} {o2 a2 : Nat} {r : Unit} (hi0 : Is S ad o0 a0 0) (hi2 : Is S ad o2 a2 4) (h : f_X0_comeTo o0 x1 o2 S D = some (r, S', D')) : CoA l yX0_comeTo (Cond.code yX0_comeTo cX0_comeTo 3 none :: tb0) 3 79 [.ref a0, .int x1, .ref a2] G cA S D ad sz (fun _ => none) True S' D' := by
  refine Met.ofW (cc := cX0_comeTo) (maxL := 3) (ret := none) (by decide) rfl ?_
  intro p e s m args below meth c s₁ B hml hv
  obtain ⟨rfl, hsz, hP, hK, hD0, hT, hX⟩ := hv
  subst hsz
  have hts := atoms_spec (ws := Cond.code yX0_comeTo cX0_comeTo 3 none :: tb0) B.pre
  have hC : Cx RX0 cX0_comeTo 3 none p s m _ meth c := ⟨B.exec, B.bytes, hml, findClass_of_methodNamed B.named, fun w q => hts w (List.mem_cons_of_mem _ q), B.returns, B.notSynchronized⟩
  have hw := Wd.entry hP hK hD0 hT hX
  have hl := lv_entry ([.ref a0, .int x1, .ref a2]) (n := 3) (Nat.le_of_ble_eq_true rfl)
  rw [lg_entry_eq]
  exact w_X0_comeTo_0 hC ⟨Nat.le_refl _, Nat.le_refl _⟩ ⟨rfl, rfl⟩ o0 a0 x1 o2 a2 S D ad _ _ _ 0 0 hi0 hi2 hw (Al.rf S ad) hl h
theorem mn_X0_goOnBothWays_81 {r : Int32} {S' : sh} {D' : dt} {S : sh} {D : dt} (h : f_X0_goOnBothWays_81 S D = some (r, S', D')) : Ext S S' := by
  unfold f_X0_goOnBothWays_81 at h
  cases h
  exact Ext.rf _
set_option maxHeartbeats 4000000 in
set_option maxRecDepth 100000 in
theorem w_X0_goOnBothWays_81 {r : Int32} {S' : sh} {D' : dt} {S0 : sh} {ad0 : Nat → Nat} (hC : Cx RX0 cX0_goOnBothWays 2 (some .int) p s m args meth c) (hR : 4 ≤ R.frames ∧ 101 ≤ R.locals) (ho : R.cells = sN S' - sN S0 ∧ R.slots = sZ S' - sZ S0) : ∀  (S : sh) (D : dt) (ad : Nat → Nat) (H : Heap) (locs : List Loc) (ls : Array Slot) (cells slots : Nat), Wd G cA S D ad A s H locs → Al S0 ad0 S ad cells slots → lv_has ls 2 [] → f_X0_goOnBothWays_81 S D = some (r, S', D') → W p l e R s m args below meth c H locs cells slots (MQ below (Qa (fun _ => (some (.int r))) (fun ad' => (∀ k, k < sN S0 → ad' k = ad0 k) ∧ True) (fun ad' => wpost G cA S' D' ad' A) A) args s (sN S' - sN S0) (sZ S' - sZ S0) A) (F0 m 81 ls []) := by
  obtain ⟨hx, hb, -⟩ := id hC
  intro S D ad H locs ls cells slots  hw hc hl h
  have hE : Ext S S' := mn_X0_goOnBothWays_81  h
  unfold f_X0_goOnBothWays_81 at h
  refine lv_iconst (v := 0) hx hb dX0_goOnBothWays_81 (by decide) ?_
  cases h
  exact r_iretA hC hw hc dX0_goOnBothWays_82
theorem mn_X0_goOnBothWays_61 {r : Int32} {S' : sh} {D' : dt} {o0 : Nat} {S : sh} {D : dt} (h : f_X0_goOnBothWays_61 o0 S D = some (r, S', D')) : Ext S S' := by
  unfold f_X0_goOnBothWays_61 at h
  rcases (Decidable.em ((gI D o0 10) = 0)) with c41 | c41
  · have h := i_yes c41 h
    exact (mn_X0_goOnBothWays_81 h)
  · have h := i_no c41 h
    obtain ⟨o43, ho46, h⟩ := rq_i h
    obtain ⟨_, S49, D48, hq47, h⟩ := c3_i h
    have hA := mn_X0_comeTo_0 hq47
    exact hA.tr (mn_X0_goOnBothWays_81 h)
set_option maxHeartbeats 4000000 in
set_option maxRecDepth 100000 in
theorem w_X0_goOnBothWays_61 {r : Int32} {S' : sh} {D' : dt} {S0 : sh} {ad0 : Nat → Nat} (hC : Cx RX0 cX0_goOnBothWays 2 (some .int) p s m args meth c) (hR : 4 ≤ R.frames ∧ 101 ≤ R.locals) (ho : R.cells = sN S' - sN S0 ∧ R.slots = sZ S' - sZ S0) : ∀ (o0 a0 : Nat) (S : sh) (D : dt) (ad : Nat → Nat) (H : Heap) (locs : List Loc) (ls : Array Slot) (cells slots : Nat), Is S ad o0 a0 0 → Wd G cA S D ad A s H locs → Al S0 ad0 S ad cells slots → lv_has ls 2 [(0, .ref a0)] → f_X0_goOnBothWays_61 o0 S D = some (r, S', D') → W p l e R s m args below meth c H locs cells slots (MQ below (Qa (fun _ => (some (.int r))) (fun ad' => (∀ k, k < sN S0 → ad' k = ad0 k) ∧ True) (fun ad' => wpost G cA S' D' ad' A) A) args s (sN S' - sN S0) (sZ S' - sZ S0) A) (F0 m 61 ls []) := by
  obtain ⟨hx, hb, -⟩ := id hC
  intro o0 a0 S D ad H locs ls cells slots hi0 hw hc hl h
  have hE : Ext S S' := mn_X0_goOnBothWays_61  h
  unfold f_X0_goOnBothWays_61 at h
  refine lv_aload_n hx hb dX0_goOnBothWays_61 rfl (lv_at hl 0 rfl) ?_
  refine r_gI hC hw kc_0 hi0 10 rfl lk_328 dX0_goOnBothWays_62 ?_
  refine lv_if_eq (tgt := 81) hx hb dX0_goOnBothWays_65 (by decide) (fun c41 => ?_) (fun c41 => ?_)
  · have h := i_yes c41 h
    exact w_X0_goOnBothWays_81 hC hR ho _ _ _ _ _ _ _ _ hw hc (lv_sub hl [] rfl) h --j42
  · have h := i_no c41 h
    refine lv_aload_n hx hb dX0_goOnBothWays_68 rfl (lv_at hl 0 rfl) ?_
    refine lv_aload_n hx hb dX0_goOnBothWays_69 rfl (lv_at hl 0 rfl) ?_
    refine r_gL hC hw kc_0 hi0 11 rfl lk_329 dX0_goOnBothWays_70 ?_
    refine lv_l2i (v := (gL D o0 11).toInt32) hx hb dX0_goOnBothWays_73 rfl ?_
    refine lv_aload_n hx hb dX0_goOnBothWays_74 rfl (lv_at hl 0 rfl) ?_
    obtain ⟨o43, ho46, h⟩ := rq_i h
    refine r_getR hC hw kc_0 hi0 5 rfl lk_322 dX0_goOnBothWays_75 rfl ho46 (fun a44 hi45 => ?_)
    obtain ⟨_, S49, D48, hq47, h⟩ := c3_i h
    have hE50 := mn_X0_comeTo_0 hq47
    have hE51 := mn_X0_goOnBothWays_81 h
    refine r_cVA [.int ((gL D o0 11).toInt32), .ref a44] [] hC hw kc_0 hi0 (k_X0_comeTo _ hi0 hi45 hq47) mk_X0_comeTo lk_839 ⟨Nat.le_trans (by decide) hR.1, Nat.le_trans (by decide) hR.2⟩ (hc.roomC ho hE50 hE51) rfl hl.1 rfl (Nat.le_of_ble_eq_true rfl) dX0_goOnBothWays_78 (fun ad52 hP H locs hw => ?_)
    refine W.eq (g2 := F0 m 81 ls []) rfl ?_
    have hi53 := Is.up hi0 hE50 hP.1
    have hc := hc.call hE50 hP.1
    exact w_X0_goOnBothWays_81 hC hR ho _ _ _ _ _ _ _ _ hw hc (lv_sub hl [] rfl) h --j54
theorem mn_X0_goOnBothWays_41 {r : Int32} {S' : sh} {D' : dt} {o0 : Nat} {S : sh} {D : dt} (h : f_X0_goOnBothWays_41 o0 S D = some (r, S', D')) : Ext S S' := by
  unfold f_X0_goOnBothWays_41 at h
  rcases (Decidable.em ((gI D o0 8) = 0)) with c55 | c55
  · have h := i_yes c55 h
    exact (mn_X0_goOnBothWays_61 h)
  · have h := i_no c55 h
    obtain ⟨o57, ho60, h⟩ := rq_i h
    obtain ⟨_, S63, D62, hq61, h⟩ := c3_i h
    have hA := mn_X0_comeTo_0 hq61
    exact hA.tr (mn_X0_goOnBothWays_61 h)
set_option maxHeartbeats 4000000 in
set_option maxRecDepth 100000 in
theorem w_X0_goOnBothWays_41 {r : Int32} {S' : sh} {D' : dt} {S0 : sh} {ad0 : Nat → Nat} (hC : Cx RX0 cX0_goOnBothWays 2 (some .int) p s m args meth c) (hR : 4 ≤ R.frames ∧ 101 ≤ R.locals) (ho : R.cells = sN S' - sN S0 ∧ R.slots = sZ S' - sZ S0) : ∀ (o0 a0 : Nat) (S : sh) (D : dt) (ad : Nat → Nat) (H : Heap) (locs : List Loc) (ls : Array Slot) (cells slots : Nat), Is S ad o0 a0 0 → Wd G cA S D ad A s H locs → Al S0 ad0 S ad cells slots → lv_has ls 2 [(0, .ref a0)] → f_X0_goOnBothWays_41 o0 S D = some (r, S', D') → W p l e R s m args below meth c H locs cells slots (MQ below (Qa (fun _ => (some (.int r))) (fun ad' => (∀ k, k < sN S0 → ad' k = ad0 k) ∧ True) (fun ad' => wpost G cA S' D' ad' A) A) args s (sN S' - sN S0) (sZ S' - sZ S0) A) (F0 m 41 ls []) := by
  obtain ⟨hx, hb, -⟩ := id hC
  intro o0 a0 S D ad H locs ls cells slots hi0 hw hc hl h
  have hE : Ext S S' := mn_X0_goOnBothWays_41  h
  unfold f_X0_goOnBothWays_41 at h
  refine lv_aload_n hx hb dX0_goOnBothWays_41 rfl (lv_at hl 0 rfl) ?_
  refine r_gI hC hw kc_0 hi0 8 rfl lk_326 dX0_goOnBothWays_42 ?_
  refine lv_if_eq (tgt := 61) hx hb dX0_goOnBothWays_45 (by decide) (fun c55 => ?_) (fun c55 => ?_)
  · have h := i_yes c55 h
    exact w_X0_goOnBothWays_61 hC hR ho o0 a0 _ _ _ _ _ _ _ _ hi0 hw hc (lv_sub hl [0] rfl) h --j56
  · have h := i_no c55 h
    refine lv_aload_n hx hb dX0_goOnBothWays_48 rfl (lv_at hl 0 rfl) ?_
    refine lv_aload_n hx hb dX0_goOnBothWays_49 rfl (lv_at hl 0 rfl) ?_
    refine r_gL hC hw kc_0 hi0 9 rfl lk_327 dX0_goOnBothWays_50 ?_
    refine lv_l2i (v := (gL D o0 9).toInt32) hx hb dX0_goOnBothWays_53 rfl ?_
    refine lv_aload_n hx hb dX0_goOnBothWays_54 rfl (lv_at hl 0 rfl) ?_
    obtain ⟨o57, ho60, h⟩ := rq_i h
    refine r_getR hC hw kc_0 hi0 4 rfl lk_321 dX0_goOnBothWays_55 rfl ho60 (fun a58 hi59 => ?_)
    obtain ⟨_, S63, D62, hq61, h⟩ := c3_i h
    have hE64 := mn_X0_comeTo_0 hq61
    have hE65 := mn_X0_goOnBothWays_61 h
    refine r_cVA [.int ((gL D o0 9).toInt32), .ref a58] [] hC hw kc_0 hi0 (k_X0_comeTo _ hi0 hi59 hq61) mk_X0_comeTo lk_839 ⟨Nat.le_trans (by decide) hR.1, Nat.le_trans (by decide) hR.2⟩ (hc.roomC ho hE64 hE65) rfl hl.1 rfl (Nat.le_of_ble_eq_true rfl) dX0_goOnBothWays_58 (fun ad66 hP H locs hw => ?_)
    refine W.eq (g2 := F0 m 61 ls []) rfl ?_
    have hi67 := Is.up hi0 hE64 hP.1
    have hc := hc.call hE64 hP.1
    exact w_X0_goOnBothWays_61 hC hR ho o0 a0 _ _ _ _ _ _ _ _ hi67 hw hc (lv_sub hl [0] rfl) h --j68
theorem mn_X0_goOnBothWays_19 {r : Int32} {S' : sh} {D' : dt} {o0 : Nat} {x1 : Int32} {S : sh} {D : dt} (h : f_X0_goOnBothWays_19 o0 x1 S D = some (r, S', D')) : Ext S S' := by
  unfold f_X0_goOnBothWays_19 at h
  rcases (Decidable.em ((gI D o0 10) = 0)) with c69 | c69
  · have h := i_yes c69 h
    exact (mn_X0_goOnBothWays_41 h)
  · have h := i_no c69 h
    obtain ⟨r72, hq71, h⟩ := pq_i h
    rcases (Decidable.em (r72 = 0)).symm with c73 | c73
    · have h := i_no c73 h
      exact (mn_X0_goOnBothWays_41 h)
    · have h := i_yes c73 h
      cases h
      exact Ext.rf _
set_option maxHeartbeats 4000000 in
set_option maxRecDepth 100000 in
theorem w_X0_goOnBothWays_19 {r : Int32} {S' : sh} {D' : dt} {S0 : sh} {ad0 : Nat → Nat} (hC : Cx RX0 cX0_goOnBothWays 2 (some .int) p s m args meth c) (hR : 4 ≤ R.frames ∧ 101 ≤ R.locals) (ho : R.cells = sN S' - sN S0 ∧ R.slots = sZ S' - sZ S0) : ∀ (o0 a0 : Nat) (x1 : Int32) (S : sh) (D : dt) (ad : Nat → Nat) (H : Heap) (locs : List Loc) (ls : Array Slot) (cells slots : Nat), Is S ad o0 a0 0 → Wd G cA S D ad A s H locs → Al S0 ad0 S ad cells slots → lv_has ls 2 [(0, .ref a0), (1, .int x1)] → f_X0_goOnBothWays_19 o0 x1 S D = some (r, S', D') → W p l e R s m args below meth c H locs cells slots (MQ below (Qa (fun _ => (some (.int r))) (fun ad' => (∀ k, k < sN S0 → ad' k = ad0 k) ∧ True) (fun ad' => wpost G cA S' D' ad' A) A) args s (sN S' - sN S0) (sZ S' - sZ S0) A) (F0 m 19 ls []) := by
  obtain ⟨hx, hb, -⟩ := id hC
  intro o0 a0 x1 S D ad H locs ls cells slots hi0 hw hc hl h
  have hE : Ext S S' := mn_X0_goOnBothWays_19  h
  unfold f_X0_goOnBothWays_19 at h
  refine lv_aload_n hx hb dX0_goOnBothWays_19 rfl (lv_at hl 0 rfl) ?_
  refine r_gI hC hw kc_0 hi0 10 rfl lk_328 dX0_goOnBothWays_20 ?_
  refine lv_if_eq (tgt := 41) hx hb dX0_goOnBothWays_23 (by decide) (fun c69 => ?_) (fun c69 => ?_)
  · have h := i_yes c69 h
    exact w_X0_goOnBothWays_41 hC hR ho o0 a0 _ _ _ _ _ _ _ _ hi0 hw hc (lv_sub hl [0] rfl) h --j70
  · have h := i_no c69 h
    refine lv_aload_n hx hb dX0_goOnBothWays_26 rfl (lv_at hl 0 rfl) ?_
    refine lv_iload_n hx hb dX0_goOnBothWays_27 rfl (lv_at hl 1 rfl) ?_
    refine lv_aload_n hx hb dX0_goOnBothWays_28 rfl (lv_at hl 0 rfl) ?_
    refine r_gL hC hw kc_0 hi0 11 rfl lk_329 dX0_goOnBothWays_29 ?_
    obtain ⟨r72, hq71, h⟩ := pq_i h
    refine r_cV (st' := [.int r72]) [.int x1, .long (gL D o0 11)] [] hC hw kc_0 hi0 (k_X0_canGoOn _ hi0 hq71) mk_X0_canGoOn lk_835 ⟨Nat.le_trans (by decide) hR.1, Nat.le_trans (by decide) hR.2⟩ (hc.le ho hE) rfl hl.1 rfl rfl (Nat.le_of_ble_eq_true rfl) dX0_goOnBothWays_32 (fun hP H locs hw => ?_)
    refine lv_if_ne (tgt := 41) hx hb dX0_goOnBothWays_35 (by decide) (fun c73 => ?_) (fun c73 => ?_)
    · have h := i_no c73 h
      exact w_X0_goOnBothWays_41 hC hR ho o0 a0 _ _ _ _ _ _ _ _ hi0 hw hc (lv_sub hl [0] rfl) h --j74
    · have h := i_yes c73 h
      refine lv_bipush (v := 6) hx hb dX0_goOnBothWays_38 (by decide) ?_
      cases h
      exact r_iretA hC hw hc dX0_goOnBothWays_40
theorem mn_X0_goOnBothWays_0 {r : Int32} {S' : sh} {D' : dt} {o0 : Nat} {x1 : Int32} {S : sh} {D : dt} (h : f_X0_goOnBothWays o0 x1 S D = some (r, S', D')) : Ext S S' := by
  unfold f_X0_goOnBothWays at h
  rcases (Decidable.em ((gI D o0 8) = 0)) with c75 | c75
  · have h := i_yes c75 h
    exact (mn_X0_goOnBothWays_19 h)
  · have h := i_no c75 h
    obtain ⟨r78, hq77, h⟩ := pq_i h
    rcases (Decidable.em (r78 = 0)) with c79 | c79
    · have h := i_yes c79 h
      cases h
      exact Ext.rf _
    · have h := i_no c79 h
      exact (mn_X0_goOnBothWays_19 h)
set_option maxHeartbeats 4000000 in
set_option maxRecDepth 100000 in
theorem w_X0_goOnBothWays_0 {r : Int32} {S' : sh} {D' : dt} {S0 : sh} {ad0 : Nat → Nat} (hC : Cx RX0 cX0_goOnBothWays 2 (some .int) p s m args meth c) (hR : 4 ≤ R.frames ∧ 101 ≤ R.locals) (ho : R.cells = sN S' - sN S0 ∧ R.slots = sZ S' - sZ S0) : ∀ (o0 a0 : Nat) (x1 : Int32) (S : sh) (D : dt) (ad : Nat → Nat) (H : Heap) (locs : List Loc) (ls : Array Slot) (cells slots : Nat), Is S ad o0 a0 0 → Wd G cA S D ad A s H locs → Al S0 ad0 S ad cells slots → lv_has ls 2 [(0, .ref a0), (1, .int x1)] → f_X0_goOnBothWays o0 x1 S D = some (r, S', D') → W p l e R s m args below meth c H locs cells slots (MQ below (Qa (fun _ => (some (.int r))) (fun ad' => (∀ k, k < sN S0 → ad' k = ad0 k) ∧ True) (fun ad' => wpost G cA S' D' ad' A) A) args s (sN S' - sN S0) (sZ S' - sZ S0) A) (F0 m 0 ls []) := by
  obtain ⟨hx, hb, -⟩ := id hC
  intro o0 a0 x1 S D ad H locs ls cells slots hi0 hw hc hl h
  have hE : Ext S S' := mn_X0_goOnBothWays_0  h
  unfold f_X0_goOnBothWays at h
  refine lv_aload_n hx hb dX0_goOnBothWays_0 rfl (lv_at hl 0 rfl) ?_
  refine r_gI hC hw kc_0 hi0 8 rfl lk_326 dX0_goOnBothWays_1 ?_
  refine lv_if_eq (tgt := 19) hx hb dX0_goOnBothWays_4 (by decide) (fun c75 => ?_) (fun c75 => ?_)
  · have h := i_yes c75 h
    exact w_X0_goOnBothWays_19 hC hR ho o0 a0 x1 _ _ _ _ _ _ _ _ hi0 hw hc (lv_sub hl [0, 1] rfl) h --j76
  · have h := i_no c75 h
    refine lv_aload_n hx hb dX0_goOnBothWays_7 rfl (lv_at hl 0 rfl) ?_
    refine lv_iload_n hx hb dX0_goOnBothWays_8 rfl (lv_at hl 1 rfl) ?_
    refine lv_aload_n hx hb dX0_goOnBothWays_9 rfl (lv_at hl 0 rfl) ?_
    refine r_gL hC hw kc_0 hi0 9 rfl lk_327 dX0_goOnBothWays_10 ?_
    obtain ⟨r78, hq77, h⟩ := pq_i h
    refine r_cV (st' := [.int r78]) [.int x1, .long (gL D o0 9)] [] hC hw kc_0 hi0 (k_X0_canGoOn _ hi0 hq77) mk_X0_canGoOn lk_835 ⟨Nat.le_trans (by decide) hR.1, Nat.le_trans (by decide) hR.2⟩ (hc.le ho hE) rfl hl.1 rfl rfl (Nat.le_of_ble_eq_true rfl) dX0_goOnBothWays_13 (fun hP H locs hw => ?_)
    refine lv_if_eq (tgt := 38) hx hb dX0_goOnBothWays_16 (by decide) (fun c79 => ?_) (fun c79 => ?_)
    · have h := i_yes c79 h
      refine lv_bipush (v := 6) hx hb dX0_goOnBothWays_38 (by decide) ?_
      cases h
      exact r_iretA hC hw hc dX0_goOnBothWays_40
    · have h := i_no c79 h
      exact w_X0_goOnBothWays_19 hC hR ho o0 a0 x1 _ _ _ _ _ _ _ _ hi0 hw hc (lv_sub hl [0, 1] rfl) h --j80
set_option maxHeartbeats 4000000 in
set_option maxRecDepth 100000 in
theorem k_X0_goOnBothWays {l : Launch} {G : va_G} {cA : Nat → ClassId} {S S' : sh} {D D' : dt} {ad : Nat → Nat} (sz : Nat) {o0 a0 : Nat} {x1 : Int32} {r : Int32} (hi0 : Is S ad o0 a0 0) (h : f_X0_goOnBothWays o0 x1 S D = some (r, S', D')) : CoA l yX0_goOnBothWays (Cond.code yX0_goOnBothWays cX0_goOnBothWays 2 (some .int) :: tb0) 4 101 [.ref a0, .int x1] G cA S D ad sz (fun _ => (some (.int r))) True S' D' := by
  refine Met.ofW (cc := cX0_goOnBothWays) (maxL := 2) (ret := (some .int)) (by decide) rfl ?_
  intro p e s m args below meth c s₁ B hml hv
  obtain ⟨rfl, hsz, hP, hK, hD0, hT, hX⟩ := hv
  subst hsz
  have hts := atoms_spec (ws := Cond.code yX0_goOnBothWays cX0_goOnBothWays 2 (some .int) :: tb0) B.pre
  have hC : Cx RX0 cX0_goOnBothWays 2 (some .int) p s m _ meth c := ⟨B.exec, B.bytes, hml, findClass_of_methodNamed B.named, fun w q => hts w (List.mem_cons_of_mem _ q), B.returns, B.notSynchronized⟩
  have hw := Wd.entry hP hK hD0 hT hX
  have hl := lv_entry ([.ref a0, .int x1]) (n := 2) (Nat.le_of_ble_eq_true rfl)
  rw [lg_entry_eq]
  exact w_X0_goOnBothWays_0 hC ⟨Nat.le_refl _, Nat.le_refl _⟩ ⟨rfl, rfl⟩ o0 a0 x1 S D ad _ _ _ 0 0 hi0 hw (Al.rf S ad) hl h
theorem mn_X0_follow_125 {r : Int32} {S' : sh} {D' : dt} {k79 : Nat → Int32 → sh → dt → Option (Int32 × sh × dt)} (hk79 : ∀ (o0 : Nat) (x1 : Int32) (S : sh) (D : dt), k79 o0 x1 S D = some (r, S', D') → Ext S S') {o0 : Nat} {x1 : Int32} {x3 : Int32} {S : sh} {D : dt} (h : f_X0_follow_125 k79 o0 x1 x3 S D = some (r, S', D')) : Ext S S' := by
  unfold f_X0_follow_125 at h
  rcases (Decidable.em (x3 = 0)) with c138 | c138
  · have h := i_yes c138 h
    have h := nm_i h _ rfl
    exact (hk79 _ _ _ _ h)
  · have h := i_no c138 h
    have h := nm_i h _ rfl
    cases h
    exact Ext.rf _
set_option maxHeartbeats 4000000 in
set_option maxRecDepth 100000 in
theorem w_X0_follow_125 {r : Int32} {S' : sh} {D' : dt} {S0 : sh} {ad0 : Nat → Nat} (hC : Cx RX0 cX0_follow 4 (some .int) p s m args meth c) (hR : 6 ≤ R.frames ∧ 164 ≤ R.locals) (ho : R.cells = sN S' - sN S0 ∧ R.slots = sZ S' - sZ S0) {k79 : Nat → Int32 → sh → dt → Option (Int32 × sh × dt)} (hk79 : ∀ (o0 a0 : Nat) (x1 : Int32) (S : sh) (D : dt) (ad : Nat → Nat) (H : Heap) (locs : List Loc) (ls : Array Slot) (cells slots : Nat), Is S ad o0 a0 0 → Wd G cA S D ad A s H locs → Al S0 ad0 S ad cells slots → lv_has ls 4 [(0, .ref a0), (1, .int x1)] → k79 o0 x1 S D = some (r, S', D') → W p l e R s m args below meth c H locs cells slots (MQ below (Qa (fun _ => (some (.int r))) (fun ad' => (∀ k, k < sN S0 → ad' k = ad0 k) ∧ True) (fun ad' => wpost G cA S' D' ad' A) A) args s (sN S' - sN S0) (sZ S' - sZ S0) A) (F0 m 79 ls [])) (hm79 : ∀ (o0 : Nat) (x1 : Int32) (S : sh) (D : dt), k79 o0 x1 S D = some (r, S', D') → Ext S S') : ∀ (o0 a0 : Nat) (x1 : Int32) (x3 : Int32) (S : sh) (D : dt) (ad : Nat → Nat) (H : Heap) (locs : List Loc) (ls : Array Slot) (cells slots : Nat), Is S ad o0 a0 0 → Wd G cA S D ad A s H locs → Al S0 ad0 S ad cells slots → lv_has ls 4 [(0, .ref a0), (1, .int x1), (3, .int x3)] → f_X0_follow_125 k79 o0 x1 x3 S D = some (r, S', D') → W p l e R s m args below meth c H locs cells slots (MQ below (Qa (fun _ => (some (.int r))) (fun ad' => (∀ k, k < sN S0 → ad' k = ad0 k) ∧ True) (fun ad' => wpost G cA S' D' ad' A) A) args s (sN S' - sN S0) (sZ S' - sZ S0) A) (F0 m 125 ls []) := by
  obtain ⟨hx, hb, -⟩ := id hC
  intro o0 a0 x1 x3 S D ad H locs ls cells slots hi0 hw hc hl h
  have hE : Ext S S' := mn_X0_follow_125 hm79 h
  unfold f_X0_follow_125 at h
  refine lv_iload_n hx hb dX0_follow_125 rfl (lv_at hl 2 rfl) ?_
  refine lv_if_eq (tgt := 136) hx hb dX0_follow_126 (by decide) (fun c138 => ?_) (fun c138 => ?_)
  · have h := i_yes c138 h
    obtain ⟨y139, ey139⟩ : ∃ z : Int32, z = x1 + 1 := ⟨_, rfl⟩
    have h := nm_i h y139 ey139
    refine lv_iinc (v := y139) (lv' := [(1, .int y139), (0, .ref a0), (3, .int x3)]) hx hb dX0_follow_136 hl (k := 1) rfl (by rw [ey139]; rfl) (by decide) rfl (fun ls hl => ?_)
    refine lv_goto (tgt := 79) hx hb dX0_follow_139 (by decide) ?_
    exact hk79 o0 a0 y139 _ _ _ _ _ _ _ _ hi0 hw hc (lv_sub hl [1, 0] rfl) h --j140
  · have h := i_no c138 h
    refine lv_aload_n hx hb dX0_follow_129 rfl (lv_at hl 0 rfl) ?_
    refine lv_iload_n hx hb dX0_follow_130 rfl (lv_at hl 1 rfl) ?_
    refine r_pI hC hw kc_0 hi0 7 rfl lk_324 rfl rfl rfl dX0_follow_131 (fun D141 eD141 H locs hw => ?_)
    have h := nm_i h D141 eD141
    refine lv_iload_n hx hb dX0_follow_134 rfl (lv_at hl 2 rfl) ?_
    cases h
    exact r_iretA hC hw hc dX0_follow_135
theorem mn_X0_follow_124 {r : Int32} {S' : sh} {D' : dt} {k79 : Nat → Int32 → sh → dt → Option (Int32 × sh × dt)} (hk79 : ∀ (o0 : Nat) (x1 : Int32) (S : sh) (D : dt), k79 o0 x1 S D = some (r, S', D') → Ext S S') {o0 : Nat} {x1 : Int32} {xs0 : Int32} {S : sh} {D : dt} (h : f_X0_follow_124 k79 o0 x1 xs0 S D = some (r, S', D')) : Ext S S' := by
  unfold f_X0_follow_124 at h
  exact (mn_X0_follow_125 hk79 h)
set_option maxHeartbeats 4000000 in
set_option maxRecDepth 100000 in
theorem w_X0_follow_124 {r : Int32} {S' : sh} {D' : dt} {S0 : sh} {ad0 : Nat → Nat} (hC : Cx RX0 cX0_follow 4 (some .int) p s m args meth c) (hR : 6 ≤ R.frames ∧ 164 ≤ R.locals) (ho : R.cells = sN S' - sN S0 ∧ R.slots = sZ S' - sZ S0) {k79 : Nat → Int32 → sh → dt → Option (Int32 × sh × dt)} (hk79 : ∀ (o0 a0 : Nat) (x1 : Int32) (S : sh) (D : dt) (ad : Nat → Nat) (H : Heap) (locs : List Loc) (ls : Array Slot) (cells slots : Nat), Is S ad o0 a0 0 → Wd G cA S D ad A s H locs → Al S0 ad0 S ad cells slots → lv_has ls 4 [(0, .ref a0), (1, .int x1)] → k79 o0 x1 S D = some (r, S', D') → W p l e R s m args below meth c H locs cells slots (MQ below (Qa (fun _ => (some (.int r))) (fun ad' => (∀ k, k < sN S0 → ad' k = ad0 k) ∧ True) (fun ad' => wpost G cA S' D' ad' A) A) args s (sN S' - sN S0) (sZ S' - sZ S0) A) (F0 m 79 ls [])) (hm79 : ∀ (o0 : Nat) (x1 : Int32) (S : sh) (D : dt), k79 o0 x1 S D = some (r, S', D') → Ext S S') : ∀ (o0 a0 : Nat) (x1 : Int32) (xs0 : Int32) (S : sh) (D : dt) (ad : Nat → Nat) (H : Heap) (locs : List Loc) (ls : Array Slot) (cells slots : Nat), Is S ad o0 a0 0 → Wd G cA S D ad A s H locs → Al S0 ad0 S ad cells slots → lv_has ls 4 [(0, .ref a0), (1, .int x1)] → f_X0_follow_124 k79 o0 x1 xs0 S D = some (r, S', D') → W p l e R s m args below meth c H locs cells slots (MQ below (Qa (fun _ => (some (.int r))) (fun ad' => (∀ k, k < sN S0 → ad' k = ad0 k) ∧ True) (fun ad' => wpost G cA S' D' ad' A) A) args s (sN S' - sN S0) (sZ S' - sZ S0) A) (F0 m 124 ls [.int xs0]) := by
  obtain ⟨hx, hb, -⟩ := id hC
  intro o0 a0 x1 xs0 S D ad H locs ls cells slots hi0 hw hc hl h
  have hE : Ext S S' := mn_X0_follow_124 hm79 h
  unfold f_X0_follow_124 at h
  refine lv_istore_n (lv' := [(3, .int xs0), (0, .ref a0), (1, .int x1)]) hx hb dX0_follow_124 rfl hl (by decide) rfl (fun ls hl => ?_)
  exact w_X0_follow_125 hC hR ho hk79 hm79 o0 a0 x1 xs0 _ _ _ _ _ _ _ _ hi0 hw hc (lv_sub hl [1, 2, 0] rfl) h --j142
theorem mn_X0_follow_110 {r : Int32} {S' : sh} {D' : dt} {k79 : Nat → Int32 → sh → dt → Option (Int32 × sh × dt)} (hk79 : ∀ (o0 : Nat) (x1 : Int32) (S : sh) (D : dt), k79 o0 x1 S D = some (r, S', D') → Ext S S') {o0 : Nat} {x1 : Int32} {o2 : Option Nat} {xs0 : Int32} {S : sh} {D : dt} (h : f_X0_follow_110 k79 o0 x1 o2 xs0 S D = some (r, S', D')) : Ext S S' := by
  unfold f_X0_follow_110 at h
  cases o2 with
  | none =>
    have h := oqN h
    rcases (Decidable.em (xs0 = 0)).symm with c143 | c143
    · have h := i_no c143 h
      exact (mn_X0_follow_125 hk79 h)
    · have h := i_yes c143 h
      exact (mn_X0_follow_125 hk79 h)
  | some o2 =>
    have h := oqS h
    rcases (Decidable.em (xs0 = 0)).symm with c146 | c146
    · have h := i_no c146 h
      exact (mn_X0_follow_125 hk79 h)
    · have h := i_yes c146 h
      obtain ⟨r149, S151, D150, hq148, h⟩ := c3_i h
      have hA := mn_X0_goOnBothWays_0 hq148
      exact hA.tr (mn_X0_follow_124 hk79 h)
set_option maxHeartbeats 4000000 in
set_option maxRecDepth 100000 in
theorem w_X0_follow_110 {r : Int32} {S' : sh} {D' : dt} {S0 : sh} {ad0 : Nat → Nat} (hC : Cx RX0 cX0_follow 4 (some .int) p s m args meth c) (hR : 6 ≤ R.frames ∧ 164 ≤ R.locals) (ho : R.cells = sN S' - sN S0 ∧ R.slots = sZ S' - sZ S0) {k79 : Nat → Int32 → sh → dt → Option (Int32 × sh × dt)} (hk79 : ∀ (o0 a0 : Nat) (x1 : Int32) (S : sh) (D : dt) (ad : Nat → Nat) (H : Heap) (locs : List Loc) (ls : Array Slot) (cells slots : Nat), Is S ad o0 a0 0 → Wd G cA S D ad A s H locs → Al S0 ad0 S ad cells slots → lv_has ls 4 [(0, .ref a0), (1, .int x1)] → k79 o0 x1 S D = some (r, S', D') → W p l e R s m args below meth c H locs cells slots (MQ below (Qa (fun _ => (some (.int r))) (fun ad' => (∀ k, k < sN S0 → ad' k = ad0 k) ∧ True) (fun ad' => wpost G cA S' D' ad' A) A) args s (sN S' - sN S0) (sZ S' - sZ S0) A) (F0 m 79 ls [])) (hm79 : ∀ (o0 : Nat) (x1 : Int32) (S : sh) (D : dt), k79 o0 x1 S D = some (r, S', D') → Ext S S') : ∀ (o0 a0 : Nat) (x1 : Int32) (o2 : Option Nat) (xs0 : Int32) (S : sh) (D : dt) (ad : Nat → Nat) (H : Heap) (locs : List Loc) (ls : Array Slot) (cells slots : Nat), Is S ad o0 a0 0 → (∀ z, o2 = some z → z < sN S ∧ sK S z = 4) → Wd G cA S D ad A s H locs → Al S0 ad0 S ad cells slots → lv_has ls 4 [(0, .ref a0), (1, .int x1), (2, va_rf (o2.map ad))] → f_X0_follow_110 k79 o0 x1 o2 xs0 S D = some (r, S', D') → W p l e R s m args below meth c H locs cells slots (MQ below (Qa (fun _ => (some (.int r))) (fun ad' => (∀ k, k < sN S0 → ad' k = ad0 k) ∧ True) (fun ad' => wpost G cA S' D' ad' A) A) args s (sN S' - sN S0) (sZ S' - sZ S0) A) (F0 m 110 ls [.int xs0]) := by
  obtain ⟨hx, hb, -⟩ := id hC
  intro o0 a0 x1 o2 xs0 S D ad H locs ls cells slots hi0 hi2 hw hc hl h
  have hE : Ext S S' := mn_X0_follow_110 hm79 h
  unfold f_X0_follow_110 at h
  cases o2 with
  | none =>
    have h := oqN h
    have hl : lv_has ls 4 [(0, .ref a0), (1, .int x1), (2, .null)] := hl
    refine lv_istore_n (lv' := [(3, .int xs0), (0, .ref a0), (1, .int x1), (2, .null)]) hx hb dX0_follow_110 rfl hl (by decide) rfl (fun ls hl => ?_)
    refine lv_iload_n hx hb dX0_follow_111 rfl (lv_at hl 0 rfl) ?_
    refine lv_if_ne (tgt := 125) hx hb dX0_follow_112 (by decide) (fun c143 => ?_) (fun c143 => ?_)
    · have h := i_no c143 h
      exact w_X0_follow_125 hC hR ho hk79 hm79 o0 a0 x1 xs0 _ _ _ _ _ _ _ _ hi0 hw hc (lv_sub hl [1, 2, 0] rfl) h --j144
    · have h := i_yes c143 h
      refine lv_aload_nN hx hb dX0_follow_115 rfl (lv_at hl 3 rfl) ?_
      refine lv_ifnullN (tgt := 125) hx hb dX0_follow_116 (by decide) ?_
      exact w_X0_follow_125 hC hR ho hk79 hm79 o0 a0 x1 xs0 _ _ _ _ _ _ _ _ hi0 hw hc (lv_sub hl [1, 2, 0] rfl) h --j145
  | some o2 =>
    have h := oqS h
    have hi2 : Is S ad o2 (ad o2) 4 := ⟨(hi2 o2 rfl).1, (hi2 o2 rfl).2, rfl⟩
    have hl : lv_has ls 4 [(0, .ref a0), (1, .int x1), (2, .ref (ad o2))] := hl
    refine lv_istore_n (lv' := [(3, .int xs0), (0, .ref a0), (1, .int x1), (2, .ref (ad o2))]) hx hb dX0_follow_110 rfl hl (by decide) rfl (fun ls hl => ?_)
    refine lv_iload_n hx hb dX0_follow_111 rfl (lv_at hl 0 rfl) ?_
    refine lv_if_ne (tgt := 125) hx hb dX0_follow_112 (by decide) (fun c146 => ?_) (fun c146 => ?_)
    · have h := i_no c146 h
      exact w_X0_follow_125 hC hR ho hk79 hm79 o0 a0 x1 xs0 _ _ _ _ _ _ _ _ hi0 hw hc (lv_sub hl [1, 2, 0] rfl) h --j147
    · have h := i_yes c146 h
      refine lv_aload_n hx hb dX0_follow_115 rfl (lv_at hl 3 rfl) ?_
      refine lv_ifnull hx hb dX0_follow_116 ?_
      refine lv_aload_n hx hb dX0_follow_119 rfl (lv_at hl 1 rfl) ?_
      refine lv_iload_n hx hb dX0_follow_120 rfl (lv_at hl 2 rfl) ?_
      obtain ⟨r149, S151, D150, hq148, h⟩ := c3_i h
      have hE152 := mn_X0_goOnBothWays_0 hq148
      have hE153 := mn_X0_follow_124 hm79 h
      refine r_cVA [.int x1] [] hC hw kc_0 hi0 (k_X0_goOnBothWays _ hi0 hq148) mk_X0_goOnBothWays lk_831 ⟨Nat.le_trans (by decide) hR.1, Nat.le_trans (by decide) hR.2⟩ (hc.roomC ho hE152 hE153) rfl hl.1 rfl (Nat.le_of_ble_eq_true rfl) dX0_follow_121 (fun ad154 hP H locs hw => ?_)
      refine W.eq (g2 := F0 m 124 ls [.int r149]) rfl ?_
      have hi155 := Is.up hi0 hE152 hP.1
      have hi156 := Is.up hi2 hE152 hP.1
      have hc := hc.call hE152 hP.1
      exact w_X0_follow_124 hC hR ho hk79 hm79 o0 a0 x1 r149 _ _ _ _ _ _ _ _ hi155 hw hc (lv_sub hl [1, 2] rfl) h --j157
theorem mn_X0_follow_79 {r : Int32} {S' : sh} {D' : dt} : ∀ (n : Nat) (o0 : Nat) (x1 : Int32) (S : sh) (D : dt), f_X0_follow_79 n o0 x1 S D = some (r, S', D') → Ext S S' := by
  intro n
  induction n with
  | zero =>
    intro o0 x1 S D h
    rw [f_X0_follow_79.eq_1] at h
    cases h
  | succ n ih =>
    intro o0 x1 S D h
    rw [f_X0_follow_79.eq_2] at h
    obtain ⟨o158, ho161, h⟩ := rq_i h
    rcases (Decidable.em ((gI D o158 5) ≤ x1)) with c162 | c162
    · have h := i_yes c162 h
      cases h
      exact Ext.rf _
    · have h := i_no c162 h
      obtain ⟨r164, hq163, h⟩ := pq_i h
      cases r164 with
      | none =>
        have h := oqN h
        exact (mn_X0_follow_110 ih h)
      | some o165 =>
        have h := oqS h
        obtain ⟨r169, D170, hq168, h⟩ := cq_i h
        exact (mn_X0_follow_110 ih h)
set_option maxHeartbeats 4000000 in
set_option maxRecDepth 100000 in
theorem w_X0_follow_79 {r : Int32} {S' : sh} {D' : dt} {S0 : sh} {ad0 : Nat → Nat} (hC : Cx RX0 cX0_follow 4 (some .int) p s m args meth c) (hR : 6 ≤ R.frames ∧ 164 ≤ R.locals) (ho : R.cells = sN S' - sN S0 ∧ R.slots = sZ S' - sZ S0) : ∀ (n : Nat), ∀ (o0 a0 : Nat) (x1 : Int32) (S : sh) (D : dt) (ad : Nat → Nat) (H : Heap) (locs : List Loc) (ls : Array Slot) (cells slots : Nat), Is S ad o0 a0 0 → Wd G cA S D ad A s H locs → Al S0 ad0 S ad cells slots → lv_has ls 4 [(0, .ref a0), (1, .int x1)] → f_X0_follow_79 n o0 x1 S D = some (r, S', D') → W p l e R s m args below meth c H locs cells slots (MQ below (Qa (fun _ => (some (.int r))) (fun ad' => (∀ k, k < sN S0 → ad' k = ad0 k) ∧ True) (fun ad' => wpost G cA S' D' ad' A) A) args s (sN S' - sN S0) (sZ S' - sZ S0) A) (F0 m 79 ls []) := by
  obtain ⟨hx, hb, -⟩ := id hC
  intro n
  induction n with
  | zero =>
    intro o0 a0 x1 S D ad H locs ls cells slots hi0 hw hc hl h
    rw [f_X0_follow_79.eq_1] at h
    cases h
  | succ n ih =>
    intro o0 a0 x1 S D ad H locs ls cells slots hi0 hw hc hl h
    have hE : Ext S S' := mn_X0_follow_79  (n + 1) _ _ _ _ h
    rw [f_X0_follow_79.eq_2] at h
    refine lv_iload_n hx hb dX0_follow_79 rfl (lv_at hl 1 rfl) ?_
    refine lv_aload_n hx hb dX0_follow_80 rfl (lv_at hl 0 rfl) ?_
    obtain ⟨o158, ho161, h⟩ := rq_i h
    refine r_getR hC hw kc_0 hi0 0 rfl lk_317 dX0_follow_81 rfl ho161 (fun a159 hi160 => ?_)
    refine r_gI hC hw kc_3 hi160 5 rfl lk_158 dX0_follow_84 ?_
    refine lv_icmp_ge (tgt := 142) hx hb dX0_follow_87 (by decide) (fun c162 => ?_) (fun c162 => ?_)
    · have h := i_yes c162 h
      refine lv_iconst (v := 0) hx hb dX0_follow_142 (by decide) ?_
      cases h
      exact r_iretA hC hw hc dX0_follow_143
    · have h := i_no c162 h
      refine lv_aload_n hx hb dX0_follow_90 rfl (lv_at hl 0 rfl) ?_
      refine lv_iload_n hx hb dX0_follow_91 rfl (lv_at hl 1 rfl) ?_
      obtain ⟨r164, hq163, h⟩ := pq_i h
      refine r_cV (st' := [va_rf (r164.map ad)]) [.int x1] [] hC hw kc_0 hi0 (k_X0_sceneAt _ hi0 hq163) mk_X0_sceneAt lk_490 ⟨Nat.le_trans (by decide) hR.1, Nat.le_trans (by decide) hR.2⟩ (hc.le ho hE) rfl hl.1 rfl rfl (Nat.le_of_ble_eq_true rfl) dX0_follow_92 (fun hP H locs hw => ?_)
      cases r164 with
      | none =>
        have h := oqN h
        refine W.eq (g2 := F0 m 95 ls [.null]) rfl ?_
        refine lv_astore_nN (lv' := [(2, .null), (0, .ref a0), (1, .int x1)]) hx hb dX0_follow_95 rfl hl (by decide) rfl (fun ls hl => ?_)
        refine lv_aload_nN hx hb dX0_follow_96 rfl (lv_at hl 0 rfl) ?_
        refine lv_ifnonnullN hx hb dX0_follow_97 ?_
        refine lv_iconst (v := 0) hx hb dX0_follow_100 (by decide) ?_
        refine lv_goto (tgt := 110) hx hb dX0_follow_101 (by decide) ?_
        exact w_X0_follow_110 hC hR ho ih (mn_X0_follow_79 n) o0 a0 x1 none (0 : Int32) _ _ _ _ _ _ _ _ hi0 (fun _ q => nomatch q) hw hc (lv_sub hl [1, 2, 0] rfl) h --j167
      | some o165 =>
        have h := oqS h
        have hi166 : Is S ad o165 (ad o165) 4 := ⟨(hP o165 rfl).1, (hP o165 rfl).2, rfl⟩
        refine W.eq (g2 := F0 m 95 ls [.ref (ad o165)]) rfl ?_
        refine lv_astore_n (lv' := [(2, .ref (ad o165)), (0, .ref a0), (1, .int x1)]) hx hb dX0_follow_95 rfl hl (by decide) rfl (fun ls hl => ?_)
        refine lv_aload_n hx hb dX0_follow_96 rfl (lv_at hl 0 rfl) ?_
        refine lv_ifnonnull (tgt := 104) hx hb dX0_follow_97 (by decide) ?_
        refine lv_aload_n hx hb dX0_follow_104 rfl (lv_at hl 1 rfl) ?_
        refine lv_iload_n hx hb dX0_follow_105 rfl (lv_at hl 2 rfl) ?_
        refine lv_aload_n hx hb dX0_follow_106 rfl (lv_at hl 0 rfl) ?_
        obtain ⟨r169, D170, hq168, h⟩ := cq_i h
        refine r_cV (st' := [.int r169]) [.int x1, .ref (ad o165)] [] hC hw kc_0 hi0 (k_X0_judgeSlot _ hi0 hi166 hq168) mk_X0_judgeSlot lk_494 ⟨Nat.le_trans (by decide) hR.1, Nat.le_trans (by decide) hR.2⟩ (hc.le ho hE) rfl hl.1 rfl rfl (Nat.le_of_ble_eq_true rfl) dX0_follow_107 (fun hP H locs hw => ?_)
        exact w_X0_follow_110 hC hR ho ih (mn_X0_follow_79 n) o0 a0 x1 (some o165) r169 _ _ _ _ _ _ _ _ hi0 (fun z q => by cases q; exact ⟨hi166.1, hi166.2.1⟩) hw hc (lv_sub hl [1, 2, 0] rfl) h --j171
theorem mn_X0_follow_63 {r : Int32} {S' : sh} {D' : dt} {o0 : Nat} {os0 : Nat} {xs1 : Int32} {os2 : Option Nat} {S : sh} {D : dt} (h : f_X0_follow_63 o0 os0 xs1 os2 S D = some (r, S', D')) : Ext S S' := by
  unfold f_X0_follow_63 at h
  cases os2 with
  | none =>
    have h := oqN h
    obtain ⟨hn172, h⟩ := ix_i h
    have h := nm_i h _ rfl
    obtain ⟨o174, ho177, h⟩ := rq_i h
    obtain ⟨hn178, h⟩ := ix_i h
    rcases oq_i h with ⟨ho182, h⟩ | ⟨o179, ho182, h⟩
    · skip
      obtain ⟨o183, ho186, h⟩ := rq_i h
      cases h
    · skip
      obtain ⟨o187, ho190, h⟩ := rq_i h
      obtain ⟨_, D192, hq191, h⟩ := cq_i h
      have h := nm_i h _ rfl
      exact (mn_X0_follow_79 LF _ _ _ _ h)
  | some os2 =>
    have h := oqS h
    obtain ⟨hn195, h⟩ := ix_i h
    have h := nm_i h _ rfl
    obtain ⟨o197, ho200, h⟩ := rq_i h
    obtain ⟨hn201, h⟩ := ix_i h
    rcases oq_i h with ⟨ho205, h⟩ | ⟨o202, ho205, h⟩
    · skip
      obtain ⟨o206, ho209, h⟩ := rq_i h
      cases h
    · skip
      obtain ⟨o210, ho213, h⟩ := rq_i h
      obtain ⟨_, D215, hq214, h⟩ := cq_i h
      have h := nm_i h _ rfl
      exact (mn_X0_follow_79 LF _ _ _ _ h)
set_option maxHeartbeats 4000000 in
set_option maxRecDepth 100000 in
theorem w_X0_follow_63 {r : Int32} {S' : sh} {D' : dt} {S0 : sh} {ad0 : Nat → Nat} (hC : Cx RX0 cX0_follow 4 (some .int) p s m args meth c) (hR : 6 ≤ R.frames ∧ 164 ≤ R.locals) (ho : R.cells = sN S' - sN S0 ∧ R.slots = sZ S' - sZ S0) : ∀ (o0 a0 : Nat) (os0 as0 : Nat) (xs1 : Int32) (os2 : Option Nat) (S : sh) (D : dt) (ad : Nat → Nat) (H : Heap) (locs : List Loc) (ls : Array Slot) (cells slots : Nat), Is S ad o0 a0 0 → Is S ad os0 as0 204 → (∀ z, os2 = some z → z < sN S ∧ sK S z = 4) → Wd G cA S D ad A s H locs → Al S0 ad0 S ad cells slots → lv_has ls 4 [(0, .ref a0)] → f_X0_follow_63 o0 os0 xs1 os2 S D = some (r, S', D') → W p l e R s m args below meth c H locs cells slots (MQ below (Qa (fun _ => (some (.int r))) (fun ad' => (∀ k, k < sN S0 → ad' k = ad0 k) ∧ True) (fun ad' => wpost G cA S' D' ad' A) A) args s (sN S' - sN S0) (sZ S' - sZ S0) A) (F0 m 63 ls [va_rf (os2.map ad), .int xs1, .ref as0]) := by
  obtain ⟨hx, hb, -⟩ := id hC
  intro o0 a0 os0 as0 xs1 os2 S D ad H locs ls cells slots hi0 his0 his2 hw hc hl h
  have hE : Ext S S' := mn_X0_follow_63  h
  unfold f_X0_follow_63 at h
  cases os2 with
  | none =>
    have h := oqN h
    have hl : lv_has ls 4 [(0, .ref a0)] := hl
    obtain ⟨hn172, h⟩ := ix_i h
    refine r_aasN hC hw his0 (by decide) 4 rfl hn172 dX0_follow_63 (fun D173 eD173 H locs hw => ?_)
    have h := nm_i h D173 eD173
    refine lv_aload_n hx hb dX0_follow_64 rfl (lv_at hl 0 rfl) ?_
    obtain ⟨o174, ho177, h⟩ := rq_i h
    refine r_getR hC hw kc_0 hi0 2 rfl lk_319 dX0_follow_65 rfl ho177 (fun a175 hi176 => ?_)
    refine lv_iconst (v := 0) hx hb dX0_follow_68 (by decide) ?_
    obtain ⟨hn178, h⟩ := ix_i h
    rcases oq_i h with ⟨ho182, h⟩ | ⟨o179, ho182, h⟩
    · refine r_aaldN hC hw hi176 (by decide) 4 rfl hn178 dX0_follow_69 ho182 ?_
      refine lv_aload_n hx hb dX0_follow_70 rfl (lv_at hl 0 rfl) ?_
      obtain ⟨o183, ho186, h⟩ := rq_i h
      refine r_getR hC hw kc_0 hi0 4 rfl lk_321 dX0_follow_71 rfl ho186 (fun a184 hi185 => ?_)
      cases h
    · refine r_aald hC hw hi176 (by decide) 4 rfl hn178 dX0_follow_69 (fun _ => rfl) ho182 (fun a180 hi181 => ?_)
      refine lv_aload_n hx hb dX0_follow_70 rfl (lv_at hl 0 rfl) ?_
      obtain ⟨o187, ho190, h⟩ := rq_i h
      refine r_getR hC hw kc_0 hi0 4 rfl lk_321 dX0_follow_71 rfl ho190 (fun a188 hi189 => ?_)
      obtain ⟨_, D192, hq191, h⟩ := cq_i h
      refine r_cV (st' := []) [.ref a188] [] hC hw kc_4 hi181 (k_X5_copyFrom _ hi181 hi189 hq191) mk_X5_copyFrom lk_483 ⟨Nat.le_trans (by decide) hR.1, Nat.le_trans (by decide) hR.2⟩ (hc.le ho hE) rfl hl.1 rfl rfl (Nat.le_of_ble_eq_true rfl) dX0_follow_74 (fun hP H locs hw => ?_)
      refine lv_iconst (v := 0) hx hb dX0_follow_77 (by decide) ?_
      refine lv_topi (fun y193 ey193 => ?_)
      have h := nm_i h y193 ey193
      refine lv_istore_n (lv' := [(1, .int y193), (0, .ref a0)]) hx hb dX0_follow_78 rfl hl (by decide) rfl (fun ls hl => ?_)
      exact w_X0_follow_79 hC hR ho LF o0 a0 y193 _ _ _ _ _ _ _ _ hi0 hw hc (lv_sub hl [1, 0] rfl) h --j194
  | some os2 =>
    have h := oqS h
    have his2 : Is S ad os2 (ad os2) 4 := ⟨(his2 os2 rfl).1, (his2 os2 rfl).2, rfl⟩
    have hl : lv_has ls 4 [(0, .ref a0)] := hl
    obtain ⟨hn195, h⟩ := ix_i h
    refine r_aas hC hw his0 (by decide) 4 kc_4 rfl his2 (fun _ => rfl) hn195 dX0_follow_63 (fun D196 eD196 H locs hw => ?_)
    have h := nm_i h D196 eD196
    refine lv_aload_n hx hb dX0_follow_64 rfl (lv_at hl 0 rfl) ?_
    obtain ⟨o197, ho200, h⟩ := rq_i h
    refine r_getR hC hw kc_0 hi0 2 rfl lk_319 dX0_follow_65 rfl ho200 (fun a198 hi199 => ?_)
    refine lv_iconst (v := 0) hx hb dX0_follow_68 (by decide) ?_
    obtain ⟨hn201, h⟩ := ix_i h
    rcases oq_i h with ⟨ho205, h⟩ | ⟨o202, ho205, h⟩
    · refine r_aaldN hC hw hi199 (by decide) 4 rfl hn201 dX0_follow_69 ho205 ?_
      refine lv_aload_n hx hb dX0_follow_70 rfl (lv_at hl 0 rfl) ?_
      obtain ⟨o206, ho209, h⟩ := rq_i h
      refine r_getR hC hw kc_0 hi0 4 rfl lk_321 dX0_follow_71 rfl ho209 (fun a207 hi208 => ?_)
      cases h
    · refine r_aald hC hw hi199 (by decide) 4 rfl hn201 dX0_follow_69 (fun _ => rfl) ho205 (fun a203 hi204 => ?_)
      refine lv_aload_n hx hb dX0_follow_70 rfl (lv_at hl 0 rfl) ?_
      obtain ⟨o210, ho213, h⟩ := rq_i h
      refine r_getR hC hw kc_0 hi0 4 rfl lk_321 dX0_follow_71 rfl ho213 (fun a211 hi212 => ?_)
      obtain ⟨_, D215, hq214, h⟩ := cq_i h
      refine r_cV (st' := []) [.ref a211] [] hC hw kc_4 hi204 (k_X5_copyFrom _ hi204 hi212 hq214) mk_X5_copyFrom lk_483 ⟨Nat.le_trans (by decide) hR.1, Nat.le_trans (by decide) hR.2⟩ (hc.le ho hE) rfl hl.1 rfl rfl (Nat.le_of_ble_eq_true rfl) dX0_follow_74 (fun hP H locs hw => ?_)
      refine lv_iconst (v := 0) hx hb dX0_follow_77 (by decide) ?_
      refine lv_topi (fun y216 ey216 => ?_)
      have h := nm_i h y216 ey216
      refine lv_istore_n (lv' := [(1, .int y216), (0, .ref a0)]) hx hb dX0_follow_78 rfl hl (by decide) rfl (fun ls hl => ?_)
      exact w_X0_follow_79 hC hR ho LF o0 a0 y216 _ _ _ _ _ _ _ _ hi0 hw hc (lv_sub hl [1, 0] rfl) h --j217
theorem mn_X0_follow_54 {r : Int32} {S' : sh} {D' : dt} {o0 : Nat} {os0 : Nat} {xs1 : Int32} {os2 : Nat} {S : sh} {D : dt} (h : f_X0_follow_54 o0 os0 xs1 os2 S D = some (r, S', D')) : Ext S S' := by
  unfold f_X0_follow_54 at h
  exact (mn_X0_follow_63 h)
set_option maxHeartbeats 4000000 in
set_option maxRecDepth 100000 in
theorem w_X0_follow_54 {r : Int32} {S' : sh} {D' : dt} {S0 : sh} {ad0 : Nat → Nat} (hC : Cx RX0 cX0_follow 4 (some .int) p s m args meth c) (hR : 6 ≤ R.frames ∧ 164 ≤ R.locals) (ho : R.cells = sN S' - sN S0 ∧ R.slots = sZ S' - sZ S0) : ∀ (o0 a0 : Nat) (os0 as0 : Nat) (xs1 : Int32) (os2 as2 : Nat) (S : sh) (D : dt) (ad : Nat → Nat) (H : Heap) (locs : List Loc) (ls : Array Slot) (cells slots : Nat), Is S ad o0 a0 0 → Is S ad os0 as0 204 → Is S ad os2 as2 4 → Wd G cA S D ad A s H locs → Al S0 ad0 S ad cells slots → lv_has ls 4 [(0, .ref a0)] → f_X0_follow_54 o0 os0 xs1 os2 S D = some (r, S', D') → W p l e R s m args below meth c H locs cells slots (MQ below (Qa (fun _ => (some (.int r))) (fun ad' => (∀ k, k < sN S0 → ad' k = ad0 k) ∧ True) (fun ad' => wpost G cA S' D' ad' A) A) args s (sN S' - sN S0) (sZ S' - sZ S0) A) (F0 m 54 ls [.ref as2, .int xs1, .ref as0]) := by
  obtain ⟨hx, hb, -⟩ := id hC
  intro o0 a0 os0 as0 xs1 os2 as2 S D ad H locs ls cells slots hi0 his0 his2 hw hc hl h
  have hE : Ext S S' := mn_X0_follow_54  h
  unfold f_X0_follow_54 at h
  refine lv_goto (tgt := 63) hx hb dX0_follow_54 (by decide) ?_
  obtain rfl := his2.2.2
  exact w_X0_follow_63 hC hR ho o0 a0 os0 as0 xs1 (some os2) _ _ _ _ _ _ _ _ hi0 his0 (fun z q => by cases q; exact ⟨his2.1, his2.2.1⟩) hw hc (lv_sub hl [0] rfl) h --j218
theorem mn_X0_follow_50 {r : Int32} {S' : sh} {D' : dt} {o0 : Nat} {os0 : Nat} {xs1 : Int32} {os2 : Nat} {S : sh} {D : dt} (h : f_X0_follow_50 o0 os0 xs1 os2 S D = some (r, S', D')) : Ext S S' := by
  unfold f_X0_follow_50 at h
  obtain ⟨_, S221, D220, hq219, h⟩ := c3_i h
  have hA := mn_X5_init_0 hq219
  exact hA.tr (mn_X0_follow_54 h)
set_option maxHeartbeats 4000000 in
set_option maxRecDepth 100000 in
theorem w_X0_follow_50 {r : Int32} {S' : sh} {D' : dt} {S0 : sh} {ad0 : Nat → Nat} (hC : Cx RX0 cX0_follow 4 (some .int) p s m args meth c) (hR : 6 ≤ R.frames ∧ 164 ≤ R.locals) (ho : R.cells = sN S' - sN S0 ∧ R.slots = sZ S' - sZ S0) : ∀ (o0 a0 : Nat) (os0 as0 : Nat) (xs1 : Int32) (os2 as2 : Nat) (S : sh) (D : dt) (ad : Nat → Nat) (H : Heap) (locs : List Loc) (ls : Array Slot) (cells slots : Nat), Is S ad o0 a0 0 → Is S ad os0 as0 204 → Is S ad os2 as2 4 → Wd G cA S D ad A s H locs → Al S0 ad0 S ad cells slots → lv_has ls 4 [(0, .ref a0)] → f_X0_follow_50 o0 os0 xs1 os2 S D = some (r, S', D') → W p l e R s m args below meth c H locs cells slots (MQ below (Qa (fun _ => (some (.int r))) (fun ad' => (∀ k, k < sN S0 → ad' k = ad0 k) ∧ True) (fun ad' => wpost G cA S' D' ad' A) A) args s (sN S' - sN S0) (sZ S' - sZ S0) A) (F0 m 50 ls [.ref as2, .int xs1, .ref as0]) := by
  obtain ⟨hx, hb, -⟩ := id hC
  intro o0 a0 os0 as0 xs1 os2 as2 S D ad H locs ls cells slots hi0 his0 his2 hw hc hl h
  have hE : Ext S S' := mn_X0_follow_50  h
  unfold f_X0_follow_50 at h
  refine lv_dup hx hb dX0_follow_50 rfl ?_
  obtain ⟨_, S221, D220, hq219, h⟩ := c3_i h
  have hE222 := mn_X5_init_0 hq219
  have hE223 := mn_X0_follow_54 h
  refine r_cINA [] [.ref as2, .int xs1, .ref as0] hC hw (k_X5_init _ his2 hq219) mk_X5_init hw.2.2.2.2.2.2.n2 ⟨Nat.le_trans (by decide) hR.1, Nat.le_trans (by decide) hR.2⟩ (hc.roomC ho hE222 hE223) rfl hl.1 rfl (Nat.le_of_ble_eq_true rfl) dX0_follow_51 (fun ad224 hP H locs hw => ?_)
  refine W.eq (g2 := F0 m 54 ls [.ref as2, .int xs1, .ref as0]) rfl ?_
  have hi225 := Is.up his2 hE222 hP.1
  have hi226 := Is.up his0 hE222 hP.1
  have hi227 := Is.up hi0 hE222 hP.1
  have hc := hc.call hE222 hP.1
  exact w_X0_follow_54 hC hR ho o0 a0 os0 as0 xs1 os2 as2 _ _ _ _ _ _ _ _ hi227 hi226 hi225 hw hc (lv_sub hl [0] rfl) h --j228
theorem mn_X0_follow_0 {r : Int32} {S' : sh} {D' : dt} {o0 : Nat} {S : sh} {D : dt} (h : f_X0_follow o0 S D = some (r, S', D')) : Ext S S' := by
  unfold f_X0_follow at h
  obtain ⟨_, D230, hq229, h⟩ := cq_i h
  obtain ⟨o231, ho234, h⟩ := rq_i h
  rcases (Decidable.em ((gI D230 o231 5) = 0)).symm with c235 | c235
  · have h := i_no c235 h
    obtain ⟨_, D237, hq236, h⟩ := cq_i h
    obtain ⟨o238, ho241, h⟩ := rq_i h
    obtain ⟨_, D243, hq242, h⟩ := cq_i h
    obtain ⟨o244, ho247, h⟩ := rq_i h
    obtain ⟨o248, ho251, h⟩ := rq_i h
    obtain ⟨hn252, h⟩ := ix_i h
    rcases oq_i h with ⟨ho256, h⟩ | ⟨o253, ho256, h⟩
    · skip
      have hA := (Ext.aS S 4 0 6)
      exact hA.tr (mn_X0_follow_50 h)
    · skip
      obtain ⟨o263, ho266, h⟩ := rq_i h
      obtain ⟨hn267, h⟩ := ix_i h
      rcases oq_i h with ⟨ho271, h⟩ | ⟨o268, ho271, h⟩
      · skip
        exact (mn_X0_follow_63 h)
      · skip
        exact (mn_X0_follow_63 h)
  · have h := i_yes c235 h
    have h := nm_i h _ rfl
    cases h
    exact Ext.rf _
set_option maxHeartbeats 4000000 in
set_option maxRecDepth 100000 in
theorem w_X0_follow_0 {r : Int32} {S' : sh} {D' : dt} {S0 : sh} {ad0 : Nat → Nat} (hC : Cx RX0 cX0_follow 4 (some .int) p s m args meth c) (hR : 6 ≤ R.frames ∧ 164 ≤ R.locals) (ho : R.cells = sN S' - sN S0 ∧ R.slots = sZ S' - sZ S0) : ∀ (o0 a0 : Nat) (S : sh) (D : dt) (ad : Nat → Nat) (H : Heap) (locs : List Loc) (ls : Array Slot) (cells slots : Nat), Is S ad o0 a0 0 → Wd G cA S D ad A s H locs → Al S0 ad0 S ad cells slots → lv_has ls 4 [(0, .ref a0)] → f_X0_follow o0 S D = some (r, S', D') → W p l e R s m args below meth c H locs cells slots (MQ below (Qa (fun _ => (some (.int r))) (fun ad' => (∀ k, k < sN S0 → ad' k = ad0 k) ∧ True) (fun ad' => wpost G cA S' D' ad' A) A) args s (sN S' - sN S0) (sZ S' - sZ S0) A) (F0 m 0 ls []) := by
  obtain ⟨hx, hb, -⟩ := id hC
  intro o0 a0 S D ad H locs ls cells slots hi0 hw hc hl h
  have hE : Ext S S' := mn_X0_follow_0  h
  unfold f_X0_follow at h
  refine lv_aload_n hx hb dX0_follow_0 rfl (lv_at hl 0 rfl) ?_
  obtain ⟨_, D230, hq229, h⟩ := cq_i h
  refine r_cV (st' := []) [] [] hC hw kc_0 hi0 (k_X0_forgetScenes _ hi0 hq229) mk_X0_forgetScenes lk_461 ⟨Nat.le_trans (by decide) hR.1, Nat.le_trans (by decide) hR.2⟩ (hc.le ho hE) rfl hl.1 rfl rfl (Nat.le_of_ble_eq_true rfl) dX0_follow_1 (fun hP H locs hw => ?_)
  refine lv_aload_n hx hb dX0_follow_4 rfl (lv_at hl 0 rfl) ?_
  obtain ⟨o231, ho234, h⟩ := rq_i h
  refine r_getR hC hw kc_0 hi0 0 rfl lk_317 dX0_follow_5 rfl ho234 (fun a232 hi233 => ?_)
  refine r_gI hC hw kc_3 hi233 5 rfl lk_158 dX0_follow_8 ?_
  refine lv_if_ne (tgt := 22) hx hb dX0_follow_11 (by decide) (fun c235 => ?_) (fun c235 => ?_)
  · have h := i_no c235 h
    refine lv_aload_n hx hb dX0_follow_22 rfl (lv_at hl 0 rfl) ?_
    obtain ⟨_, D237, hq236, h⟩ := cq_i h
    refine r_cV (st' := []) [] [] hC hw kc_0 hi0 (k_X0_markSeconds _ hi0 hq236) mk_X0_markSeconds lk_465 ⟨Nat.le_trans (by decide) hR.1, Nat.le_trans (by decide) hR.2⟩ (hc.le ho hE) rfl hl.1 rfl rfl (Nat.le_of_ble_eq_true rfl) dX0_follow_23 (fun hP H locs hw => ?_)
    refine lv_aload_n hx hb dX0_follow_26 rfl (lv_at hl 0 rfl) ?_
    obtain ⟨o238, ho241, h⟩ := rq_i h
    refine r_getR hC hw kc_0 hi0 4 rfl lk_321 dX0_follow_27 rfl ho241 (fun a239 hi240 => ?_)
    obtain ⟨_, D243, hq242, h⟩ := cq_i h
    refine r_cV (st' := []) [] [] hC hw kc_4 hi240 (k_X5_begin _ hi240 hq242) mk_X5_begin lk_469 ⟨Nat.le_trans (by decide) hR.1, Nat.le_trans (by decide) hR.2⟩ (hc.le ho hE) rfl hl.1 rfl rfl (Nat.le_of_ble_eq_true rfl) dX0_follow_30 (fun hP H locs hw => ?_)
    refine lv_aload_n hx hb dX0_follow_33 rfl (lv_at hl 0 rfl) ?_
    obtain ⟨o244, ho247, h⟩ := rq_i h
    refine r_getR hC hw kc_0 hi0 2 rfl lk_319 dX0_follow_34 rfl ho247 (fun a245 hi246 => ?_)
    refine lv_iconst (v := 0) hx hb dX0_follow_37 (by decide) ?_
    refine lv_aload_n hx hb dX0_follow_38 rfl (lv_at hl 0 rfl) ?_
    obtain ⟨o248, ho251, h⟩ := rq_i h
    refine r_getR hC hw kc_0 hi0 2 rfl lk_319 dX0_follow_39 rfl ho251 (fun a249 hi250 => ?_)
    refine lv_iconst (v := 0) hx hb dX0_follow_42 (by decide) ?_
    obtain ⟨hn252, h⟩ := ix_i h
    rcases oq_i h with ⟨ho256, h⟩ | ⟨o253, ho256, h⟩
    · refine r_aaldN hC hw hi250 (by decide) 4 rfl hn252 dX0_follow_43 ho256 ?_
      refine lv_ifnonnullN hx hb dX0_follow_44 ?_
      have hE259 := mn_X0_follow_50 h
      refine r_new hC hw kc_4 df_4 lk_256 lk_258 lk_119 (hc.room ho hE259).1 (hc.room ho hE259).2 dX0_follow_47 (fun q257 H hw hi258 => ?_)
      have hi260 := Is.up hi246 (Ext.aS S 4 0 6) (up_lt (q := q257))
      have hi261 := Is.up hi0 (Ext.aS S 4 0 6) (up_lt (q := q257))
      have hc := hc.new 4 0 6 q257
      exact w_X0_follow_50 hC hR ho o0 a0 o244 a245 (0 : Int32) (sN S) q257 _ _ _ _ _ _ _ _ hi261 hi260 hi258 hw hc (lv_sub hl [0] rfl) h --j262
    · refine r_aald hC hw hi250 (by decide) 4 rfl hn252 dX0_follow_43 (fun _ => rfl) ho256 (fun a254 hi255 => ?_)
      refine lv_ifnonnull (tgt := 57) hx hb dX0_follow_44 (by decide) ?_
      refine lv_aload_n hx hb dX0_follow_57 rfl (lv_at hl 0 rfl) ?_
      obtain ⟨o263, ho266, h⟩ := rq_i h
      refine r_getR hC hw kc_0 hi0 2 rfl lk_319 dX0_follow_58 rfl ho266 (fun a264 hi265 => ?_)
      refine lv_iconst (v := 0) hx hb dX0_follow_61 (by decide) ?_
      obtain ⟨hn267, h⟩ := ix_i h
      rcases oq_i h with ⟨ho271, h⟩ | ⟨o268, ho271, h⟩
      · refine r_aaldN hC hw hi265 (by decide) 4 rfl hn267 dX0_follow_62 ho271 ?_
        exact w_X0_follow_63 hC hR ho o0 a0 o244 a245 (0 : Int32) none _ _ _ _ _ _ _ _ hi0 hi246 (fun _ q => nomatch q) hw hc (lv_sub hl [0] rfl) h --j272
      · refine r_aald hC hw hi265 (by decide) 4 rfl hn267 dX0_follow_62 (fun _ => rfl) ho271 (fun a269 hi270 => ?_)
        obtain rfl := hi270.2.2
        exact w_X0_follow_63 hC hR ho o0 a0 o244 a245 (0 : Int32) (some o268) _ _ _ _ _ _ _ _ hi0 hi246 (fun z q => by cases q; exact ⟨hi270.1, hi270.2.1⟩) hw hc (lv_sub hl [0] rfl) h --j273
  · have h := i_yes c235 h
    refine lv_aload_n hx hb dX0_follow_14 rfl (lv_at hl 0 rfl) ?_
    refine lv_iconst (v := 0) hx hb dX0_follow_15 (by decide) ?_
    refine r_pI hC hw kc_0 hi0 7 rfl lk_324 rfl rfl rfl dX0_follow_16 (fun D274 eD274 H locs hw => ?_)
    have h := nm_i h D274 eD274
    refine lv_bipush (v := 6) hx hb dX0_follow_19 (by decide) ?_
    cases h
    exact r_iretA hC hw hc dX0_follow_21
set_option maxHeartbeats 4000000 in
set_option maxRecDepth 100000 in
theorem k_X0_follow {l : Launch} {G : va_G} {cA : Nat → ClassId} {S S' : sh} {D D' : dt} {ad : Nat → Nat} (sz : Nat) {o0 a0 : Nat} {r : Int32} (hi0 : Is S ad o0 a0 0) (h : f_X0_follow o0 S D = some (r, S', D')) : CoA l yX0_follow (Cond.code yX0_follow cX0_follow 4 (some .int) :: tb0) 6 164 [.ref a0] G cA S D ad sz (fun _ => (some (.int r))) True S' D' := by
  refine Met.ofW (cc := cX0_follow) (maxL := 4) (ret := (some .int)) (by decide) rfl ?_
  intro p e s m args below meth c s₁ B hml hv
  obtain ⟨rfl, hsz, hP, hK, hD0, hT, hX⟩ := hv
  subst hsz
  have hts := atoms_spec (ws := Cond.code yX0_follow cX0_follow 4 (some .int) :: tb0) B.pre
  have hC : Cx RX0 cX0_follow 4 (some .int) p s m _ meth c := ⟨B.exec, B.bytes, hml, findClass_of_methodNamed B.named, fun w q => hts w (List.mem_cons_of_mem _ q), B.returns, B.notSynchronized⟩
  have hw := Wd.entry hP hK hD0 hT hX
  have hl := lv_entry ([.ref a0]) (n := 4) (Nat.le_of_ble_eq_true rfl)
  rw [lg_entry_eq]
  exact w_X0_follow_0 hC ⟨Nat.le_refl _, Nat.le_refl _⟩ ⟨rfl, rfl⟩ o0 a0 S D ad _ _ _ 0 0 hi0 hw (Al.rf S ad) hl h
end

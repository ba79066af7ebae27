theorem dX0_judgeBranch_0 : decode cX0_judgeBranch 0 = .ok (.aload_n 0, 1) := by decide +kernel
theorem dX0_judgeBranch_1 : decode cX0_judgeBranch 1 = .ok (.getfield 40, 3) := by decide +kernel
theorem dX0_judgeBranch_4 : decode cX0_judgeBranch 4 = .ok (.iload_n 1, 1) := by decide +kernel
theorem dX0_judgeBranch_5 : decode cX0_judgeBranch 5 = .ok (.invokevirtual 119, 3) := by decide +kernel
theorem dX0_judgeBranch_8 : decode cX0_judgeBranch 8 = .ok (.istore_n 2, 1) := by decide +kernel
theorem dX0_judgeBranch_9 : decode cX0_judgeBranch 9 = .ok (.aload_n 0, 1) := by decide +kernel
theorem dX0_judgeBranch_10 : decode cX0_judgeBranch 10 = .ok (.getfield 40, 3) := by decide +kernel
theorem dX0_judgeBranch_13 : decode cX0_judgeBranch 13 = .ok (.getfield 158, 3) := by decide +kernel
theorem dX0_judgeBranch_16 : decode cX0_judgeBranch 16 = .ok (.iload_n 1, 1) := by decide +kernel
theorem dX0_judgeBranch_17 : decode cX0_judgeBranch 17 = .ok (.iaload, 1) := by decide +kernel
theorem dX0_judgeBranch_18 : decode cX0_judgeBranch 18 = .ok (.istore_n 3, 1) := by decide +kernel
theorem dX0_judgeBranch_19 : decode cX0_judgeBranch 19 = .ok (.aload_n 0, 1) := by decide +kernel
theorem dX0_judgeBranch_20 : decode cX0_judgeBranch 20 = .ok (.getfield 40, 3) := by decide +kernel
theorem dX0_judgeBranch_23 : decode cX0_judgeBranch 23 = .ok (.getfield 146, 3) := by decide +kernel
theorem dX0_judgeBranch_26 : decode cX0_judgeBranch 26 = .ok (.iload_n 1, 1) := by decide +kernel
theorem dX0_judgeBranch_27 : decode cX0_judgeBranch 27 = .ok (.iaload, 1) := by decide +kernel
theorem dX0_judgeBranch_28 : decode cX0_judgeBranch 28 = .ok (.istore 4, 2) := by decide +kernel
theorem dX0_judgeBranch_30 : decode cX0_judgeBranch 30 = .ok (.aload_n 0, 1) := by decide +kernel
theorem dX0_judgeBranch_31 : decode cX0_judgeBranch 31 = .ok (.getfield 40, 3) := by decide +kernel
theorem dX0_judgeBranch_34 : decode cX0_judgeBranch 34 = .ok (.iload_n 1, 1) := by decide +kernel
theorem dX0_judgeBranch_35 : decode cX0_judgeBranch 35 = .ok (.invokevirtual 248, 3) := by decide +kernel
theorem dX0_judgeBranch_38 : decode cX0_judgeBranch 38 = .ok (.istore 5, 2) := by decide +kernel
theorem dX0_judgeBranch_40 : decode cX0_judgeBranch 40 = .ok (.aload_n 0, 1) := by decide +kernel
theorem dX0_judgeBranch_41 : decode cX0_judgeBranch 41 = .ok (.getfield 22, 3) := by decide +kernel
theorem dX0_judgeBranch_44 : decode cX0_judgeBranch 44 = .ok (.iload_n 3, 1) := by decide +kernel
theorem dX0_judgeBranch_45 : decode cX0_judgeBranch 45 = .ok (.invokevirtual 217, 3) := by decide +kernel
theorem dX0_judgeBranch_48 : decode cX0_judgeBranch 48 = .ok (.ifCond .ne 20, 3) := by decide +kernel
theorem dX0_judgeBranch_51 : decode cX0_judgeBranch 51 = .ok (.iload 5, 2) := by decide +kernel
theorem dX0_judgeBranch_53 : decode cX0_judgeBranch 53 = .ok (.ifCond .eq 17, 3) := by decide +kernel
theorem dX0_judgeBranch_56 : decode cX0_judgeBranch 56 = .ok (.aload_n 0, 1) := by decide +kernel
theorem dX0_judgeBranch_57 : decode cX0_judgeBranch 57 = .ok (.getfield 22, 3) := by decide +kernel
theorem dX0_judgeBranch_60 : decode cX0_judgeBranch 60 = .ok (.iload 4, 2) := by decide +kernel
theorem dX0_judgeBranch_62 : decode cX0_judgeBranch 62 = .ok (.invokevirtual 217, 3) := by decide +kernel
theorem dX0_judgeBranch_65 : decode cX0_judgeBranch 65 = .ok (.ifCond .eq 5, 3) := by decide +kernel
theorem dX0_judgeBranch_68 : decode cX0_judgeBranch 68 = .ok (.iconst 2, 1) := by decide +kernel
theorem dX0_judgeBranch_69 : decode cX0_judgeBranch 69 = .ok (.ireturn, 1) := by decide +kernel
theorem dX0_judgeBranch_70 : decode cX0_judgeBranch 70 = .ok (.iload_n 2, 1) := by decide +kernel
theorem dX0_judgeBranch_71 : decode cX0_judgeBranch 71 = .ok (.iconst 1, 1) := by decide +kernel
theorem dX0_judgeBranch_72 : decode cX0_judgeBranch 72 = .ok (.if_icmp .eq 8, 3) := by decide +kernel
theorem dX0_judgeBranch_75 : decode cX0_judgeBranch 75 = .ok (.iload_n 2, 1) := by decide +kernel
theorem dX0_judgeBranch_76 : decode cX0_judgeBranch 76 = .ok (.iconst 5, 1) := by decide +kernel
theorem dX0_judgeBranch_77 : decode cX0_judgeBranch 77 = .ok (.if_icmp .ne 7, 3) := by decide +kernel
theorem dX0_judgeBranch_80 : decode cX0_judgeBranch 80 = .ok (.iconst 1, 1) := by decide +kernel
theorem dX0_judgeBranch_81 : decode cX0_judgeBranch 81 = .ok (.goto 4, 3) := by decide +kernel
theorem dX0_judgeBranch_84 : decode cX0_judgeBranch 84 = .ok (.iconst 0, 1) := by decide +kernel
theorem dX0_judgeBranch_85 : decode cX0_judgeBranch 85 = .ok (.istore 6, 2) := by decide +kernel
theorem dX0_judgeBranch_87 : decode cX0_judgeBranch 87 = .ok (.iload 5, 2) := by decide +kernel
theorem dX0_judgeBranch_89 : decode cX0_judgeBranch 89 = .ok (.ifCond .ne 19, 3) := by decide +kernel
theorem dX0_judgeBranch_92 : decode cX0_judgeBranch 92 = .ok (.aload_n 0, 1) := by decide +kernel
theorem dX0_judgeBranch_93 : decode cX0_judgeBranch 93 = .ok (.getfield 40, 3) := by decide +kernel
theorem dX0_judgeBranch_96 : decode cX0_judgeBranch 96 = .ok (.getfield 122, 3) := by decide +kernel
theorem dX0_judgeBranch_99 : decode cX0_judgeBranch 99 = .ok (.iload_n 1, 1) := by decide +kernel
theorem dX0_judgeBranch_100 : decode cX0_judgeBranch 100 = .ok (.iaload, 1) := by decide +kernel
theorem dX0_judgeBranch_101 : decode cX0_judgeBranch 101 = .ok (.ifCond .ne 7, 3) := by decide +kernel
theorem dX0_judgeBranch_104 : decode cX0_judgeBranch 104 = .ok (.iconst 1, 1) := by decide +kernel
theorem dX0_judgeBranch_105 : decode cX0_judgeBranch 105 = .ok (.goto 4, 3) := by decide +kernel
theorem dX0_judgeBranch_108 : decode cX0_judgeBranch 108 = .ok (.iconst 0, 1) := by decide +kernel
theorem dX0_judgeBranch_109 : decode cX0_judgeBranch 109 = .ok (.istore 7, 2) := by decide +kernel
theorem dX0_judgeBranch_111 : decode cX0_judgeBranch 111 = .ok (.aload_n 0, 1) := by decide +kernel
theorem dX0_judgeBranch_112 : decode cX0_judgeBranch 112 = .ok (.getfield 22, 3) := by decide +kernel
theorem dX0_judgeBranch_115 : decode cX0_judgeBranch 115 = .ok (.iload_n 3, 1) := by decide +kernel
theorem dX0_judgeBranch_116 : decode cX0_judgeBranch 116 = .ok (.invokevirtual 171, 3) := by decide +kernel
theorem dX0_judgeBranch_119 : decode cX0_judgeBranch 119 = .ok (.bipush 6, 2) := by decide +kernel
theorem dX0_judgeBranch_121 : decode cX0_judgeBranch 121 = .ok (.if_icmp .ne 54, 3) := by decide +kernel
theorem dX0_judgeBranch_124 : decode cX0_judgeBranch 124 = .ok (.iload 6, 2) := by decide +kernel
theorem dX0_judgeBranch_126 : decode cX0_judgeBranch 126 = .ok (.ifCond .eq 49, 3) := by decide +kernel
theorem dX0_judgeBranch_129 : decode cX0_judgeBranch 129 = .ok (.iload 7, 2) := by decide +kernel
theorem dX0_judgeBranch_131 : decode cX0_judgeBranch 131 = .ok (.ifCond .eq 44, 3) := by decide +kernel
theorem dX0_judgeBranch_134 : decode cX0_judgeBranch 134 = .ok (.aload_n 0, 1) := by decide +kernel
theorem dX0_judgeBranch_135 : decode cX0_judgeBranch 135 = .ok (.getfield 40, 3) := by decide +kernel
theorem dX0_judgeBranch_138 : decode cX0_judgeBranch 138 = .ok (.iload_n 1, 1) := by decide +kernel
theorem dX0_judgeBranch_139 : decode cX0_judgeBranch 139 = .ok (.invokevirtual 251, 3) := by decide +kernel
theorem dX0_judgeBranch_142 : decode cX0_judgeBranch 142 = .ok (.ifCond .eq 33, 3) := by decide +kernel
theorem dX0_judgeBranch_145 : decode cX0_judgeBranch 145 = .ok (.aload_n 0, 1) := by decide +kernel
theorem dX0_judgeBranch_146 : decode cX0_judgeBranch 146 = .ok (.iload_n 1, 1) := by decide +kernel
theorem dX0_judgeBranch_147 : decode cX0_judgeBranch 147 = .ok (.invokevirtual 310, 3) := by decide +kernel
theorem dX0_judgeBranch_150 : decode cX0_judgeBranch 150 = .ok (.aload_n 0, 1) := by decide +kernel
theorem dX0_judgeBranch_151 : decode cX0_judgeBranch 151 = .ok (.aload_n 0, 1) := by decide +kernel
theorem dX0_judgeBranch_152 : decode cX0_judgeBranch 152 = .ok (.getfield 22, 3) := by decide +kernel
theorem dX0_judgeBranch_155 : decode cX0_judgeBranch 155 = .ok (.getfield 291, 3) := by decide +kernel
theorem dX0_judgeBranch_158 : decode cX0_judgeBranch 158 = .ok (.iload_n 3, 1) := by decide +kernel
theorem dX0_judgeBranch_159 : decode cX0_judgeBranch 159 = .ok (.iaload, 1) := by decide +kernel
theorem dX0_judgeBranch_160 : decode cX0_judgeBranch 160 = .ok (.iload_n 2, 1) := by decide +kernel
theorem dX0_judgeBranch_161 : decode cX0_judgeBranch 161 = .ok (.iconst 1, 1) := by decide +kernel
theorem dX0_judgeBranch_162 : decode cX0_judgeBranch 162 = .ok (.if_icmp .ne 7, 3) := by decide +kernel
theorem dX0_judgeBranch_165 : decode cX0_judgeBranch 165 = .ok (.iconst 1, 1) := by decide +kernel
theorem dX0_judgeBranch_166 : decode cX0_judgeBranch 166 = .ok (.goto 4, 3) := by decide +kernel
theorem dX0_judgeBranch_169 : decode cX0_judgeBranch 169 = .ok (.iconst 0, 1) := by decide +kernel
theorem dX0_judgeBranch_170 : decode cX0_judgeBranch 170 = .ok (.invokevirtual 314, 3) := by decide +kernel
theorem dX0_judgeBranch_173 : decode cX0_judgeBranch 173 = .ok (.iconst 0, 1) := by decide +kernel
theorem dX0_judgeBranch_174 : decode cX0_judgeBranch 174 = .ok (.ireturn, 1) := by decide +kernel
theorem dX0_judgeBranch_175 : decode cX0_judgeBranch 175 = .ok (.aload_n 0, 1) := by decide +kernel
theorem dX0_judgeBranch_176 : decode cX0_judgeBranch 176 = .ok (.getfield 22, 3) := by decide +kernel
theorem dX0_judgeBranch_179 : decode cX0_judgeBranch 179 = .ok (.iload_n 3, 1) := by decide +kernel
theorem dX0_judgeBranch_180 : decode cX0_judgeBranch 180 = .ok (.invokevirtual 239, 3) := by decide +kernel
theorem dX0_judgeBranch_183 : decode cX0_judgeBranch 183 = .ok (.ifCond .eq 20, 3) := by decide +kernel
theorem dX0_judgeBranch_186 : decode cX0_judgeBranch 186 = .ok (.iload 5, 2) := by decide +kernel
theorem dX0_judgeBranch_188 : decode cX0_judgeBranch 188 = .ok (.ifCond .eq 17, 3) := by decide +kernel
theorem dX0_judgeBranch_191 : decode cX0_judgeBranch 191 = .ok (.aload_n 0, 1) := by decide +kernel
theorem dX0_judgeBranch_192 : decode cX0_judgeBranch 192 = .ok (.getfield 22, 3) := by decide +kernel
theorem dX0_judgeBranch_195 : decode cX0_judgeBranch 195 = .ok (.iload 4, 2) := by decide +kernel
theorem dX0_judgeBranch_197 : decode cX0_judgeBranch 197 = .ok (.invokevirtual 239, 3) := by decide +kernel
theorem dX0_judgeBranch_200 : decode cX0_judgeBranch 200 = .ok (.ifCond .ne 5, 3) := by decide +kernel
theorem dX0_judgeBranch_203 : decode cX0_judgeBranch 203 = .ok (.iconst 3, 1) := by decide +kernel
theorem dX0_judgeBranch_204 : decode cX0_judgeBranch 204 = .ok (.ireturn, 1) := by decide +kernel
theorem dX0_judgeBranch_205 : decode cX0_judgeBranch 205 = .ok (.aload_n 0, 1) := by decide +kernel
theorem dX0_judgeBranch_206 : decode cX0_judgeBranch 206 = .ok (.iload_n 1, 1) := by decide +kernel
theorem dX0_judgeBranch_207 : decode cX0_judgeBranch 207 = .ok (.invokevirtual 310, 3) := by decide +kernel
theorem dX0_judgeBranch_210 : decode cX0_judgeBranch 210 = .ok (.aload_n 0, 1) := by decide +kernel
theorem dX0_judgeBranch_211 : decode cX0_judgeBranch 211 = .ok (.getfield 40, 3) := by decide +kernel
theorem dX0_judgeBranch_214 : decode cX0_judgeBranch 214 = .ok (.iload_n 1, 1) := by decide +kernel
theorem dX0_judgeBranch_215 : decode cX0_judgeBranch 215 = .ok (.invokevirtual 251, 3) := by decide +kernel
theorem dX0_judgeBranch_218 : decode cX0_judgeBranch 218 = .ok (.ifCond .eq 99, 3) := by decide +kernel
theorem dX0_judgeBranch_221 : decode cX0_judgeBranch 221 = .ok (.iload 6, 2) := by decide +kernel
theorem dX0_judgeBranch_223 : decode cX0_judgeBranch 223 = .ok (.ifCond .ne 10, 3) := by decide +kernel
theorem dX0_judgeBranch_226 : decode cX0_judgeBranch 226 = .ok (.iload_n 2, 1) := by decide +kernel
theorem dX0_judgeBranch_227 : decode cX0_judgeBranch 227 = .ok (.invokestatic 317, 3) := by decide +kernel
theorem dX0_judgeBranch_230 : decode cX0_judgeBranch 230 = .ok (.ifCond .eq 87, 3) := by decide +kernel
theorem dX0_judgeBranch_233 : decode cX0_judgeBranch 233 = .ok (.iload 5, 2) := by decide +kernel
theorem dX0_judgeBranch_235 : decode cX0_judgeBranch 235 = .ok (.ifCond .eq 15, 3) := by decide +kernel
theorem dX0_judgeBranch_238 : decode cX0_judgeBranch 238 = .ok (.aload_n 0, 1) := by decide +kernel
theorem dX0_judgeBranch_239 : decode cX0_judgeBranch 239 = .ok (.getfield 22, 3) := by decide +kernel
theorem dX0_judgeBranch_242 : decode cX0_judgeBranch 242 = .ok (.iload 4, 2) := by decide +kernel
theorem dX0_judgeBranch_244 : decode cX0_judgeBranch 244 = .ok (.invokevirtual 320, 3) := by decide +kernel
theorem dX0_judgeBranch_247 : decode cX0_judgeBranch 247 = .ok (.ifCond .eq 40, 3) := by decide +kernel
theorem dX0_judgeBranch_250 : decode cX0_judgeBranch 250 = .ok (.aload_n 0, 1) := by decide +kernel
theorem dX0_judgeBranch_251 : decode cX0_judgeBranch 251 = .ok (.iload_n 3, 1) := by decide +kernel
theorem dX0_judgeBranch_252 : decode cX0_judgeBranch 252 = .ok (.iload_n 2, 1) := by decide +kernel
theorem dX0_judgeBranch_253 : decode cX0_judgeBranch 253 = .ok (.iload 5, 2) := by decide +kernel
theorem dX0_judgeBranch_255 : decode cX0_judgeBranch 255 = .ok (.ifCond .eq 16, 3) := by decide +kernel
theorem dX0_judgeBranch_258 : decode cX0_judgeBranch 258 = .ok (.aload_n 0, 1) := by decide +kernel
theorem dX0_judgeBranch_259 : decode cX0_judgeBranch 259 = .ok (.getfield 22, 3) := by decide +kernel
theorem dX0_judgeBranch_262 : decode cX0_judgeBranch 262 = .ok (.getfield 174, 3) := by decide +kernel
theorem dX0_judgeBranch_265 : decode cX0_judgeBranch 265 = .ok (.iload 4, 2) := by decide +kernel
theorem dX0_judgeBranch_267 : decode cX0_judgeBranch 267 = .ok (.laload, 1) := by decide +kernel
theorem dX0_judgeBranch_268 : decode cX0_judgeBranch 268 = .ok (.goto 13, 3) := by decide +kernel
theorem dX0_judgeBranch_271 : decode cX0_judgeBranch 271 = .ok (.aload_n 0, 1) := by decide +kernel
theorem dX0_judgeBranch_272 : decode cX0_judgeBranch 272 = .ok (.getfield 40, 3) := by decide +kernel
theorem dX0_judgeBranch_275 : decode cX0_judgeBranch 275 = .ok (.getfield 122, 3) := by decide +kernel
theorem dX0_judgeBranch_278 : decode cX0_judgeBranch 278 = .ok (.iload_n 1, 1) := by decide +kernel
theorem dX0_judgeBranch_279 : decode cX0_judgeBranch 279 = .ok (.iaload, 1) := by decide +kernel
theorem dX0_judgeBranch_280 : decode cX0_judgeBranch 280 = .ok (.i2l, 1) := by decide +kernel
theorem dX0_judgeBranch_281 : decode cX0_judgeBranch 281 = .ok (.invokevirtual 323, 3) := by decide +kernel
theorem dX0_judgeBranch_284 : decode cX0_judgeBranch 284 = .ok (.goto 33, 3) := by decide +kernel
theorem dX0_judgeBranch_287 : decode cX0_judgeBranch 287 = .ok (.aload_n 0, 1) := by decide +kernel
theorem dX0_judgeBranch_288 : decode cX0_judgeBranch 288 = .ok (.getfield 22, 3) := by decide +kernel
theorem dX0_judgeBranch_291 : decode cX0_judgeBranch 291 = .ok (.iload_n 3, 1) := by decide +kernel
theorem dX0_judgeBranch_292 : decode cX0_judgeBranch 292 = .ok (.invokevirtual 320, 3) := by decide +kernel
theorem dX0_judgeBranch_295 : decode cX0_judgeBranch 295 = .ok (.ifCond .eq 22, 3) := by decide +kernel
theorem dX0_judgeBranch_298 : decode cX0_judgeBranch 298 = .ok (.aload_n 0, 1) := by decide +kernel
theorem dX0_judgeBranch_299 : decode cX0_judgeBranch 299 = .ok (.iload 4, 2) := by decide +kernel
theorem dX0_judgeBranch_301 : decode cX0_judgeBranch 301 = .ok (.iload_n 2, 1) := by decide +kernel
theorem dX0_judgeBranch_302 : decode cX0_judgeBranch 302 = .ok (.invokestatic 327, 3) := by decide +kernel
theorem dX0_judgeBranch_305 : decode cX0_judgeBranch 305 = .ok (.aload_n 0, 1) := by decide +kernel
theorem dX0_judgeBranch_306 : decode cX0_judgeBranch 306 = .ok (.getfield 22, 3) := by decide +kernel
theorem dX0_judgeBranch_309 : decode cX0_judgeBranch 309 = .ok (.getfield 174, 3) := by decide +kernel
theorem dX0_judgeBranch_312 : decode cX0_judgeBranch 312 = .ok (.iload_n 3, 1) := by decide +kernel
theorem dX0_judgeBranch_313 : decode cX0_judgeBranch 313 = .ok (.laload, 1) := by decide +kernel
theorem dX0_judgeBranch_314 : decode cX0_judgeBranch 314 = .ok (.invokevirtual 323, 3) := by decide +kernel
theorem dX0_judgeBranch_317 : decode cX0_judgeBranch 317 = .ok (.iconst 0, 1) := by decide +kernel
theorem dX0_judgeBranch_318 : decode cX0_judgeBranch 318 = .ok (.ireturn, 1) := by decide +kernel
theorem dX0_judgeJump_0 : decode cX0_judgeJump 0 = .ok (.aload_n 0, 1) := by decide +kernel
theorem dX0_judgeJump_1 : decode cX0_judgeJump 1 = .ok (.getfield 40, 3) := by decide +kernel
theorem dX0_judgeJump_4 : decode cX0_judgeJump 4 = .ok (.iload_n 1, 1) := by decide +kernel
theorem dX0_judgeJump_5 : decode cX0_judgeJump 5 = .ok (.invokevirtual 119, 3) := by decide +kernel
theorem dX0_judgeJump_8 : decode cX0_judgeJump 8 = .ok (.istore_n 2, 1) := by decide +kernel
theorem dX0_judgeJump_9 : decode cX0_judgeJump 9 = .ok (.iload_n 2, 1) := by decide +kernel
theorem dX0_judgeJump_10 : decode cX0_judgeJump 10 = .ok (.bipush 9, 2) := by decide +kernel
theorem dX0_judgeJump_12 : decode cX0_judgeJump 12 = .ok (.if_icmp .ne 25, 3) := by decide +kernel
theorem dX0_judgeJump_15 : decode cX0_judgeJump 15 = .ok (.aload_n 0, 1) := by decide +kernel
theorem dX0_judgeJump_16 : decode cX0_judgeJump 16 = .ok (.iconst 0, 1) := by decide +kernel
theorem dX0_judgeJump_17 : decode cX0_judgeJump 17 = .ok (.putfield 90, 3) := by decide +kernel
theorem dX0_judgeJump_20 : decode cX0_judgeJump 20 = .ok (.aload_n 0, 1) := by decide +kernel
theorem dX0_judgeJump_21 : decode cX0_judgeJump 21 = .ok (.getfield 22, 3) := by decide +kernel
theorem dX0_judgeJump_24 : decode cX0_judgeJump 24 = .ok (.iconst 0, 1) := by decide +kernel
theorem dX0_judgeJump_25 : decode cX0_judgeJump 25 = .ok (.invokevirtual 239, 3) := by decide +kernel
theorem dX0_judgeJump_28 : decode cX0_judgeJump 28 = .ok (.ifCond .eq 7, 3) := by decide +kernel
theorem dX0_judgeJump_31 : decode cX0_judgeJump 31 = .ok (.iconst 0, 1) := by decide +kernel
theorem dX0_judgeJump_32 : decode cX0_judgeJump 32 = .ok (.goto 4, 3) := by decide +kernel
theorem dX0_judgeJump_35 : decode cX0_judgeJump 35 = .ok (.iconst 5, 1) := by decide +kernel
theorem dX0_judgeJump_36 : decode cX0_judgeJump 36 = .ok (.ireturn, 1) := by decide +kernel
theorem dX0_judgeJump_37 : decode cX0_judgeJump 37 = .ok (.iload_n 2, 1) := by decide +kernel
theorem dX0_judgeJump_38 : decode cX0_judgeJump 38 = .ok (.ifCond .ne 23, 3) := by decide +kernel
theorem dX0_judgeJump_41 : decode cX0_judgeJump 41 = .ok (.aload_n 0, 1) := by decide +kernel
theorem dX0_judgeJump_42 : decode cX0_judgeJump 42 = .ok (.iload_n 1, 1) := by decide +kernel
theorem dX0_judgeJump_43 : decode cX0_judgeJump 43 = .ok (.i2l, 1) := by decide +kernel
theorem dX0_judgeJump_44 : decode cX0_judgeJump 44 = .ok (.lconst 1, 1) := by decide +kernel
theorem dX0_judgeJump_45 : decode cX0_judgeJump 45 = .ok (.ladd, 1) := by decide +kernel
theorem dX0_judgeJump_46 : decode cX0_judgeJump 46 = .ok (.aload_n 0, 1) := by decide +kernel
theorem dX0_judgeJump_47 : decode cX0_judgeJump 47 = .ok (.getfield 40, 3) := by decide +kernel
theorem dX0_judgeJump_50 : decode cX0_judgeJump 50 = .ok (.iload_n 1, 1) := by decide +kernel
theorem dX0_judgeJump_51 : decode cX0_judgeJump 51 = .ok (.invokevirtual 304, 3) := by decide +kernel
theorem dX0_judgeJump_54 : decode cX0_judgeJump 54 = .ok (.i2l, 1) := by decide +kernel
theorem dX0_judgeJump_55 : decode cX0_judgeJump 55 = .ok (.ladd, 1) := by decide +kernel
theorem dX0_judgeJump_56 : decode cX0_judgeJump 56 = .ok (.putfield 93, 3) := by decide +kernel
theorem dX0_judgeJump_59 : decode cX0_judgeJump 59 = .ok (.iconst 0, 1) := by decide +kernel
theorem dX0_judgeJump_60 : decode cX0_judgeJump 60 = .ok (.ireturn, 1) := by decide +kernel
theorem dX0_judgeJump_61 : decode cX0_judgeJump 61 = .ok (.aload_n 0, 1) := by decide +kernel
theorem dX0_judgeJump_62 : decode cX0_judgeJump 62 = .ok (.iload_n 1, 1) := by decide +kernel
theorem dX0_judgeJump_63 : decode cX0_judgeJump 63 = .ok (.invokevirtual 307, 3) := by decide +kernel
theorem dX0_judgeJump_66 : decode cX0_judgeJump 66 = .ok (.ireturn, 1) := by decide +kernel
theorem dX0_judgeSlot_0 : decode cX0_judgeSlot 0 = .ok (.aload_n 0, 1) := by decide +kernel
theorem dX0_judgeSlot_1 : decode cX0_judgeSlot 1 = .ok (.getfield 40, 3) := by decide +kernel
theorem dX0_judgeSlot_4 : decode cX0_judgeSlot 4 = .ok (.iload_n 1, 1) := by decide +kernel
theorem dX0_judgeSlot_5 : decode cX0_judgeSlot 5 = .ok (.invokevirtual 86, 3) := by decide +kernel
theorem dX0_judgeSlot_8 : decode cX0_judgeSlot 8 = .ok (.ifCond .eq 5, 3) := by decide +kernel
theorem dX0_judgeSlot_11 : decode cX0_judgeSlot 11 = .ok (.iconst 1, 1) := by decide +kernel
theorem dX0_judgeSlot_12 : decode cX0_judgeSlot 12 = .ok (.ireturn, 1) := by decide +kernel
theorem dX0_judgeSlot_13 : decode cX0_judgeSlot 13 = .ok (.aload_n 0, 1) := by decide +kernel
theorem dX0_judgeSlot_14 : decode cX0_judgeSlot 14 = .ok (.getfield 22, 3) := by decide +kernel
theorem dX0_judgeSlot_17 : decode cX0_judgeSlot 17 = .ok (.aload_n 2, 1) := by decide +kernel
theorem dX0_judgeSlot_18 : decode cX0_judgeSlot 18 = .ok (.invokevirtual 66, 3) := by decide +kernel
theorem dX0_judgeSlot_21 : decode cX0_judgeSlot 21 = .ok (.aload_n 0, 1) := by decide +kernel
theorem dX0_judgeSlot_22 : decode cX0_judgeSlot 22 = .ok (.iconst 1, 1) := by decide +kernel
theorem dX0_judgeSlot_23 : decode cX0_judgeSlot 23 = .ok (.putfield 90, 3) := by decide +kernel
theorem dX0_judgeSlot_26 : decode cX0_judgeSlot 26 = .ok (.aload_n 0, 1) := by decide +kernel
theorem dX0_judgeSlot_27 : decode cX0_judgeSlot 27 = .ok (.iload_n 1, 1) := by decide +kernel
theorem dX0_judgeSlot_28 : decode cX0_judgeSlot 28 = .ok (.iconst 1, 1) := by decide +kernel
theorem dX0_judgeSlot_29 : decode cX0_judgeSlot 29 = .ok (.iadd, 1) := by decide +kernel
theorem dX0_judgeSlot_30 : decode cX0_judgeSlot 30 = .ok (.i2l, 1) := by decide +kernel
theorem dX0_judgeSlot_31 : decode cX0_judgeSlot 31 = .ok (.putfield 93, 3) := by decide +kernel
theorem dX0_judgeSlot_34 : decode cX0_judgeSlot 34 = .ok (.aload_n 0, 1) := by decide +kernel
theorem dX0_judgeSlot_35 : decode cX0_judgeSlot 35 = .ok (.iconst 0, 1) := by decide +kernel
theorem dX0_judgeSlot_36 : decode cX0_judgeSlot 36 = .ok (.putfield 97, 3) := by decide +kernel
theorem dX0_judgeSlot_39 : decode cX0_judgeSlot 39 = .ok (.aload_n 0, 1) := by decide +kernel
theorem dX0_judgeSlot_40 : decode cX0_judgeSlot 40 = .ok (.getfield 40, 3) := by decide +kernel
theorem dX0_judgeSlot_43 : decode cX0_judgeSlot 43 = .ok (.getfield 82, 3) := by decide +kernel
theorem dX0_judgeSlot_46 : decode cX0_judgeSlot 46 = .ok (.iload_n 1, 1) := by decide +kernel
theorem dX0_judgeSlot_47 : decode cX0_judgeSlot 47 = .ok (.iaload, 1) := by decide +kernel
theorem dX0_judgeSlot_48 : decode cX0_judgeSlot 48 = .ok (.bipush 7, 2) := by decide +kernel
theorem dX0_judgeSlot_50 : decode cX0_judgeSlot 50 = .ok (.iand, 1) := by decide +kernel
theorem dX0_judgeSlot_51 : decode cX0_judgeSlot 51 = .ok (.tableswitch 96 0 7 #[45, 51, 57, 64, 90, 96, 96, 90], 45) := by decide +kernel
theorem dX0_judgeSlot_96 : decode cX0_judgeSlot 96 = .ok (.aload_n 0, 1) := by decide +kernel
theorem dX0_judgeSlot_97 : decode cX0_judgeSlot 97 = .ok (.iload_n 1, 1) := by decide +kernel
theorem dX0_judgeSlot_98 : decode cX0_judgeSlot 98 = .ok (.invokevirtual 100, 3) := by decide +kernel
theorem dX0_judgeSlot_101 : decode cX0_judgeSlot 101 = .ok (.ireturn, 1) := by decide +kernel
theorem dX0_judgeSlot_102 : decode cX0_judgeSlot 102 = .ok (.aload_n 0, 1) := by decide +kernel
theorem dX0_judgeSlot_103 : decode cX0_judgeSlot 103 = .ok (.iload_n 1, 1) := by decide +kernel
theorem dX0_judgeSlot_104 : decode cX0_judgeSlot 104 = .ok (.invokevirtual 103, 3) := by decide +kernel
theorem dX0_judgeSlot_107 : decode cX0_judgeSlot 107 = .ok (.ireturn, 1) := by decide +kernel
theorem dX0_judgeSlot_108 : decode cX0_judgeSlot 108 = .ok (.aload_n 0, 1) := by decide +kernel
theorem dX0_judgeSlot_109 : decode cX0_judgeSlot 109 = .ok (.iload_n 1, 1) := by decide +kernel
theorem dX0_judgeSlot_110 : decode cX0_judgeSlot 110 = .ok (.iconst 0, 1) := by decide +kernel
theorem dX0_judgeSlot_111 : decode cX0_judgeSlot 111 = .ok (.invokevirtual 106, 3) := by decide +kernel
theorem dX0_judgeSlot_114 : decode cX0_judgeSlot 114 = .ok (.ireturn, 1) := by decide +kernel
theorem dX0_judgeSlot_115 : decode cX0_judgeSlot 115 = .ok (.aload_n 0, 1) := by decide +kernel
theorem dX0_judgeSlot_116 : decode cX0_judgeSlot 116 = .ok (.getfield 40, 3) := by decide +kernel
theorem dX0_judgeSlot_119 : decode cX0_judgeSlot 119 = .ok (.iload_n 1, 1) := by decide +kernel
theorem dX0_judgeSlot_120 : decode cX0_judgeSlot 120 = .ok (.invokevirtual 110, 3) := by decide +kernel
theorem dX0_judgeSlot_123 : decode cX0_judgeSlot 123 = .ok (.ifCond .eq 12, 3) := by decide +kernel
theorem dX0_judgeSlot_126 : decode cX0_judgeSlot 126 = .ok (.aload_n 0, 1) := by decide +kernel
theorem dX0_judgeSlot_127 : decode cX0_judgeSlot 127 = .ok (.iload_n 1, 1) := by decide +kernel
theorem dX0_judgeSlot_128 : decode cX0_judgeSlot 128 = .ok (.iconst 1, 1) := by decide +kernel
theorem dX0_judgeSlot_129 : decode cX0_judgeSlot 129 = .ok (.invokevirtual 106, 3) := by decide +kernel
theorem dX0_judgeSlot_132 : decode cX0_judgeSlot 132 = .ok (.goto 8, 3) := by decide +kernel
theorem dX0_judgeSlot_135 : decode cX0_judgeSlot 135 = .ok (.aload_n 0, 1) := by decide +kernel
theorem dX0_judgeSlot_136 : decode cX0_judgeSlot 136 = .ok (.iload_n 1, 1) := by decide +kernel
theorem dX0_judgeSlot_137 : decode cX0_judgeSlot 137 = .ok (.invokevirtual 113, 3) := by decide +kernel
theorem dX0_judgeSlot_140 : decode cX0_judgeSlot 140 = .ok (.ireturn, 1) := by decide +kernel
theorem dX0_judgeSlot_141 : decode cX0_judgeSlot 141 = .ok (.aload_n 0, 1) := by decide +kernel
theorem dX0_judgeSlot_142 : decode cX0_judgeSlot 142 = .ok (.iload_n 1, 1) := by decide +kernel
theorem dX0_judgeSlot_143 : decode cX0_judgeSlot 143 = .ok (.invokevirtual 116, 3) := by decide +kernel
theorem dX0_judgeSlot_146 : decode cX0_judgeSlot 146 = .ok (.ireturn, 1) := by decide +kernel
theorem dX0_judgeSlot_147 : decode cX0_judgeSlot 147 = .ok (.aload_n 0, 1) := by decide +kernel
theorem dX0_judgeSlot_148 : decode cX0_judgeSlot 148 = .ok (.getfield 40, 3) := by decide +kernel
theorem dX0_judgeSlot_151 : decode cX0_judgeSlot 151 = .ok (.iload_n 1, 1) := by decide +kernel
theorem dX0_judgeSlot_152 : decode cX0_judgeSlot 152 = .ok (.invokevirtual 119, 3) := by decide +kernel
theorem dX0_judgeSlot_155 : decode cX0_judgeSlot 155 = .ok (.bipush 8, 2) := by decide +kernel
theorem dX0_judgeSlot_157 : decode cX0_judgeSlot 157 = .ok (.if_icmp .ne 20, 3) := by decide +kernel
theorem dX0_judgeSlot_160 : decode cX0_judgeSlot 160 = .ok (.aload_n 0, 1) := by decide +kernel
theorem dX0_judgeSlot_161 : decode cX0_judgeSlot 161 = .ok (.iload_n 1, 1) := by decide +kernel
theorem dX0_judgeSlot_162 : decode cX0_judgeSlot 162 = .ok (.aload_n 0, 1) := by decide +kernel
theorem dX0_judgeSlot_163 : decode cX0_judgeSlot 163 = .ok (.getfield 40, 3) := by decide +kernel
theorem dX0_judgeSlot_166 : decode cX0_judgeSlot 166 = .ok (.getfield 122, 3) := by decide +kernel
theorem dX0_judgeSlot_169 : decode cX0_judgeSlot 169 = .ok (.iload_n 1, 1) := by decide +kernel
theorem dX0_judgeSlot_170 : decode cX0_judgeSlot 170 = .ok (.iaload, 1) := by decide +kernel
theorem dX0_judgeSlot_171 : decode cX0_judgeSlot 171 = .ok (.invokevirtual 125, 3) := by decide +kernel
theorem dX0_judgeSlot_174 : decode cX0_judgeSlot 174 = .ok (.goto 8, 3) := by decide +kernel
theorem dX0_judgeSlot_177 : decode cX0_judgeSlot 177 = .ok (.aload_n 0, 1) := by decide +kernel
theorem dX0_judgeSlot_178 : decode cX0_judgeSlot 178 = .ok (.iload_n 1, 1) := by decide +kernel
theorem dX0_judgeSlot_179 : decode cX0_judgeSlot 179 = .ok (.invokevirtual 129, 3) := by decide +kernel
theorem dX0_judgeSlot_182 : decode cX0_judgeSlot 182 = .ok (.ireturn, 1) := by decide +kernel
theorem dX0_canGoOn_0 : decode cX0_canGoOn 0 = .ok (.lload_n 2, 1) := by decide +kernel
theorem dX0_canGoOn_1 : decode cX0_canGoOn 1 = .ok (.iload_n 1, 1) := by decide +kernel
theorem dX0_canGoOn_2 : decode cX0_canGoOn 2 = .ok (.i2l, 1) := by decide +kernel
theorem dX0_canGoOn_3 : decode cX0_canGoOn 3 = .ok (.lcmp, 1) := by decide +kernel
theorem dX0_canGoOn_4 : decode cX0_canGoOn 4 = .ok (.ifCond .le 30, 3) := by decide +kernel
theorem dX0_canGoOn_7 : decode cX0_canGoOn 7 = .ok (.lload_n 2, 1) := by decide +kernel
theorem dX0_canGoOn_8 : decode cX0_canGoOn 8 = .ok (.aload_n 0, 1) := by decide +kernel
theorem dX0_canGoOn_9 : decode cX0_canGoOn 9 = .ok (.getfield 40, 3) := by decide +kernel
theorem dX0_canGoOn_12 : decode cX0_canGoOn 12 = .ok (.getfield 55, 3) := by decide +kernel
theorem dX0_canGoOn_15 : decode cX0_canGoOn 15 = .ok (.i2l, 1) := by decide +kernel
theorem dX0_canGoOn_16 : decode cX0_canGoOn 16 = .ok (.lcmp, 1) := by decide +kernel
theorem dX0_canGoOn_17 : decode cX0_canGoOn 17 = .ok (.ifCond .ge 17, 3) := by decide +kernel
theorem dX0_canGoOn_20 : decode cX0_canGoOn 20 = .ok (.aload_n 0, 1) := by decide +kernel
theorem dX0_canGoOn_21 : decode cX0_canGoOn 21 = .ok (.getfield 17, 3) := by decide +kernel
theorem dX0_canGoOn_24 : decode cX0_canGoOn 24 = .ok (.lload_n 2, 1) := by decide +kernel
theorem dX0_canGoOn_25 : decode cX0_canGoOn 25 = .ok (.l2i, 1) := by decide +kernel
theorem dX0_canGoOn_26 : decode cX0_canGoOn 26 = .ok (.baload, 1) := by decide +kernel
theorem dX0_canGoOn_27 : decode cX0_canGoOn 27 = .ok (.ifCond .ne 7, 3) := by decide +kernel
theorem dX0_canGoOn_30 : decode cX0_canGoOn 30 = .ok (.iconst 1, 1) := by decide +kernel
theorem dX0_canGoOn_31 : decode cX0_canGoOn 31 = .ok (.goto 4, 3) := by decide +kernel
theorem dX0_canGoOn_34 : decode cX0_canGoOn 34 = .ok (.iconst 0, 1) := by decide +kernel
theorem dX0_canGoOn_35 : decode cX0_canGoOn 35 = .ok (.ireturn, 1) := by decide +kernel
theorem dX0_comeTo_0 : decode cX0_comeTo 0 = .ok (.aload_n 0, 1) := by decide +kernel
theorem dX0_comeTo_1 : decode cX0_comeTo 1 = .ok (.getfield 11, 3) := by decide +kernel
theorem dX0_comeTo_4 : decode cX0_comeTo 4 = .ok (.iload_n 1, 1) := by decide +kernel
theorem dX0_comeTo_5 : decode cX0_comeTo 5 = .ok (.aaload, 1) := by decide +kernel
theorem dX0_comeTo_6 : decode cX0_comeTo 6 = .ok (.ifnonnull 16, 3) := by decide +kernel
theorem dX0_comeTo_9 : decode cX0_comeTo 9 = .ok (.aload_n 0, 1) := by decide +kernel
theorem dX0_comeTo_10 : decode cX0_comeTo 10 = .ok (.getfield 11, 3) := by decide +kernel
theorem dX0_comeTo_13 : decode cX0_comeTo 13 = .ok (.iload_n 1, 1) := by decide +kernel
theorem dX0_comeTo_14 : decode cX0_comeTo 14 = .ok (.new 9, 3) := by decide +kernel
theorem dX0_comeTo_17 : decode cX0_comeTo 17 = .ok (.dup, 1) := by decide +kernel
theorem dX0_comeTo_18 : decode cX0_comeTo 18 = .ok (.invokespecial 21, 3) := by decide +kernel
theorem dX0_comeTo_21 : decode cX0_comeTo 21 = .ok (.aastore, 1) := by decide +kernel
theorem dX0_comeTo_22 : decode cX0_comeTo 22 = .ok (.aload_n 0, 1) := by decide +kernel
theorem dX0_comeTo_23 : decode cX0_comeTo 23 = .ok (.getfield 11, 3) := by decide +kernel
theorem dX0_comeTo_26 : decode cX0_comeTo 26 = .ok (.iload_n 1, 1) := by decide +kernel
theorem dX0_comeTo_27 : decode cX0_comeTo 27 = .ok (.aaload, 1) := by decide +kernel
theorem dX0_comeTo_28 : decode cX0_comeTo 28 = .ok (.getfield 48, 3) := by decide +kernel
theorem dX0_comeTo_31 : decode cX0_comeTo 31 = .ok (.ifCond .eq 16, 3) := by decide +kernel
theorem dX0_comeTo_34 : decode cX0_comeTo 34 = .ok (.aload_n 0, 1) := by decide +kernel
theorem dX0_comeTo_35 : decode cX0_comeTo 35 = .ok (.getfield 11, 3) := by decide +kernel
theorem dX0_comeTo_38 : decode cX0_comeTo 38 = .ok (.iload_n 1, 1) := by decide +kernel
theorem dX0_comeTo_39 : decode cX0_comeTo 39 = .ok (.aaload, 1) := by decide +kernel
theorem dX0_comeTo_40 : decode cX0_comeTo 40 = .ok (.aload_n 2, 1) := by decide +kernel
theorem dX0_comeTo_41 : decode cX0_comeTo 41 = .ok (.invokevirtual 143, 3) := by decide +kernel
theorem dX0_comeTo_44 : decode cX0_comeTo 44 = .ok (.goto 13, 3) := by decide +kernel
theorem dX0_comeTo_47 : decode cX0_comeTo 47 = .ok (.aload_n 0, 1) := by decide +kernel
theorem dX0_comeTo_48 : decode cX0_comeTo 48 = .ok (.getfield 11, 3) := by decide +kernel
theorem dX0_comeTo_51 : decode cX0_comeTo 51 = .ok (.iload_n 1, 1) := by decide +kernel
theorem dX0_comeTo_52 : decode cX0_comeTo 52 = .ok (.aaload, 1) := by decide +kernel
theorem dX0_comeTo_53 : decode cX0_comeTo 53 = .ok (.aload_n 2, 1) := by decide +kernel
theorem dX0_comeTo_54 : decode cX0_comeTo 54 = .ok (.invokevirtual 66, 3) := by decide +kernel
theorem dX0_comeTo_57 : decode cX0_comeTo 57 = .ok (.return_, 1) := by decide +kernel
theorem dX0_goOnBothWays_0 : decode cX0_goOnBothWays 0 = .ok (.aload_n 0, 1) := by decide +kernel
theorem dX0_goOnBothWays_1 : decode cX0_goOnBothWays 1 = .ok (.getfield 90, 3) := by decide +kernel
theorem dX0_goOnBothWays_4 : decode cX0_goOnBothWays 4 = .ok (.ifCond .eq 15, 3) := by decide +kernel
theorem dX0_goOnBothWays_7 : decode cX0_goOnBothWays 7 = .ok (.aload_n 0, 1) := by decide +kernel
theorem dX0_goOnBothWays_8 : decode cX0_goOnBothWays 8 = .ok (.iload_n 1, 1) := by decide +kernel
theorem dX0_goOnBothWays_9 : decode cX0_goOnBothWays 9 = .ok (.aload_n 0, 1) := by decide +kernel
theorem dX0_goOnBothWays_10 : decode cX0_goOnBothWays 10 = .ok (.getfield 93, 3) := by decide +kernel
theorem dX0_goOnBothWays_13 : decode cX0_goOnBothWays 13 = .ok (.invokevirtual 132, 3) := by decide +kernel
theorem dX0_goOnBothWays_16 : decode cX0_goOnBothWays 16 = .ok (.ifCond .eq 22, 3) := by decide +kernel
theorem dX0_goOnBothWays_19 : decode cX0_goOnBothWays 19 = .ok (.aload_n 0, 1) := by decide +kernel
theorem dX0_goOnBothWays_20 : decode cX0_goOnBothWays 20 = .ok (.getfield 97, 3) := by decide +kernel
theorem dX0_goOnBothWays_23 : decode cX0_goOnBothWays 23 = .ok (.ifCond .eq 18, 3) := by decide +kernel
theorem dX0_goOnBothWays_26 : decode cX0_goOnBothWays 26 = .ok (.aload_n 0, 1) := by decide +kernel
theorem dX0_goOnBothWays_27 : decode cX0_goOnBothWays 27 = .ok (.iload_n 1, 1) := by decide +kernel
theorem dX0_goOnBothWays_28 : decode cX0_goOnBothWays 28 = .ok (.aload_n 0, 1) := by decide +kernel
theorem dX0_goOnBothWays_29 : decode cX0_goOnBothWays 29 = .ok (.getfield 136, 3) := by decide +kernel
theorem dX0_goOnBothWays_32 : decode cX0_goOnBothWays 32 = .ok (.invokevirtual 132, 3) := by decide +kernel
theorem dX0_goOnBothWays_35 : decode cX0_goOnBothWays 35 = .ok (.ifCond .ne 6, 3) := by decide +kernel
theorem dX0_goOnBothWays_38 : decode cX0_goOnBothWays 38 = .ok (.bipush 6, 2) := by decide +kernel
theorem dX0_goOnBothWays_40 : decode cX0_goOnBothWays 40 = .ok (.ireturn, 1) := by decide +kernel
theorem dX0_goOnBothWays_41 : decode cX0_goOnBothWays 41 = .ok (.aload_n 0, 1) := by decide +kernel
theorem dX0_goOnBothWays_42 : decode cX0_goOnBothWays 42 = .ok (.getfield 90, 3) := by decide +kernel
theorem dX0_goOnBothWays_45 : decode cX0_goOnBothWays 45 = .ok (.ifCond .eq 16, 3) := by decide +kernel
theorem dX0_goOnBothWays_48 : decode cX0_goOnBothWays 48 = .ok (.aload_n 0, 1) := by decide +kernel
theorem dX0_goOnBothWays_49 : decode cX0_goOnBothWays 49 = .ok (.aload_n 0, 1) := by decide +kernel
theorem dX0_goOnBothWays_50 : decode cX0_goOnBothWays 50 = .ok (.getfield 93, 3) := by decide +kernel
theorem dX0_goOnBothWays_53 : decode cX0_goOnBothWays 53 = .ok (.l2i, 1) := by decide +kernel
theorem dX0_goOnBothWays_54 : decode cX0_goOnBothWays 54 = .ok (.aload_n 0, 1) := by decide +kernel
theorem dX0_goOnBothWays_55 : decode cX0_goOnBothWays 55 = .ok (.getfield 22, 3) := by decide +kernel
theorem dX0_goOnBothWays_58 : decode cX0_goOnBothWays 58 = .ok (.invokevirtual 139, 3) := by decide +kernel
theorem dX0_goOnBothWays_61 : decode cX0_goOnBothWays 61 = .ok (.aload_n 0, 1) := by decide +kernel
theorem dX0_goOnBothWays_62 : decode cX0_goOnBothWays 62 = .ok (.getfield 97, 3) := by decide +kernel
theorem dX0_goOnBothWays_65 : decode cX0_goOnBothWays 65 = .ok (.ifCond .eq 16, 3) := by decide +kernel
theorem dX0_goOnBothWays_68 : decode cX0_goOnBothWays 68 = .ok (.aload_n 0, 1) := by decide +kernel
theorem dX0_goOnBothWays_69 : decode cX0_goOnBothWays 69 = .ok (.aload_n 0, 1) := by decide +kernel
theorem dX0_goOnBothWays_70 : decode cX0_goOnBothWays 70 = .ok (.getfield 136, 3) := by decide +kernel
theorem dX0_goOnBothWays_73 : decode cX0_goOnBothWays 73 = .ok (.l2i, 1) := by decide +kernel
theorem dX0_goOnBothWays_74 : decode cX0_goOnBothWays 74 = .ok (.aload_n 0, 1) := by decide +kernel
theorem dX0_goOnBothWays_75 : decode cX0_goOnBothWays 75 = .ok (.getfield 26, 3) := by decide +kernel
theorem dX0_goOnBothWays_78 : decode cX0_goOnBothWays 78 = .ok (.invokevirtual 139, 3) := by decide +kernel
theorem dX0_goOnBothWays_81 : decode cX0_goOnBothWays 81 = .ok (.iconst 0, 1) := by decide +kernel
theorem dX0_goOnBothWays_82 : decode cX0_goOnBothWays 82 = .ok (.ireturn, 1) := by decide +kernel
theorem dX0_follow_0 : decode cX0_follow 0 = .ok (.aload_n 0, 1) := by decide +kernel
theorem dX0_follow_1 : decode cX0_follow 1 = .ok (.invokevirtual 52, 3) := by decide +kernel
theorem dX0_follow_4 : decode cX0_follow 4 = .ok (.aload_n 0, 1) := by decide +kernel
theorem dX0_follow_5 : decode cX0_follow 5 = .ok (.getfield 40, 3) := by decide +kernel
theorem dX0_follow_8 : decode cX0_follow 8 = .ok (.getfield 55, 3) := by decide +kernel
theorem dX0_follow_11 : decode cX0_follow 11 = .ok (.ifCond .ne 11, 3) := by decide +kernel
theorem dX0_follow_14 : decode cX0_follow 14 = .ok (.aload_n 0, 1) := by decide +kernel
theorem dX0_follow_15 : decode cX0_follow 15 = .ok (.iconst 0, 1) := by decide +kernel
theorem dX0_follow_16 : decode cX0_follow 16 = .ok (.putfield 36, 3) := by decide +kernel
theorem dX0_follow_19 : decode cX0_follow 19 = .ok (.bipush 6, 2) := by decide +kernel
theorem dX0_follow_21 : decode cX0_follow 21 = .ok (.ireturn, 1) := by decide +kernel
theorem dX0_follow_22 : decode cX0_follow 22 = .ok (.aload_n 0, 1) := by decide +kernel
theorem dX0_follow_23 : decode cX0_follow 23 = .ok (.invokevirtual 60, 3) := by decide +kernel
theorem dX0_follow_26 : decode cX0_follow 26 = .ok (.aload_n 0, 1) := by decide +kernel
theorem dX0_follow_27 : decode cX0_follow 27 = .ok (.getfield 22, 3) := by decide +kernel
theorem dX0_follow_30 : decode cX0_follow 30 = .ok (.invokevirtual 63, 3) := by decide +kernel
theorem dX0_follow_33 : decode cX0_follow 33 = .ok (.aload_n 0, 1) := by decide +kernel
theorem dX0_follow_34 : decode cX0_follow 34 = .ok (.getfield 11, 3) := by decide +kernel
theorem dX0_follow_37 : decode cX0_follow 37 = .ok (.iconst 0, 1) := by decide +kernel
theorem dX0_follow_38 : decode cX0_follow 38 = .ok (.aload_n 0, 1) := by decide +kernel
theorem dX0_follow_39 : decode cX0_follow 39 = .ok (.getfield 11, 3) := by decide +kernel
theorem dX0_follow_42 : decode cX0_follow 42 = .ok (.iconst 0, 1) := by decide +kernel
theorem dX0_follow_43 : decode cX0_follow 43 = .ok (.aaload, 1) := by decide +kernel
theorem dX0_follow_44 : decode cX0_follow 44 = .ok (.ifnonnull 13, 3) := by decide +kernel
theorem dX0_follow_47 : decode cX0_follow 47 = .ok (.new 9, 3) := by decide +kernel
theorem dX0_follow_50 : decode cX0_follow 50 = .ok (.dup, 1) := by decide +kernel
theorem dX0_follow_51 : decode cX0_follow 51 = .ok (.invokespecial 21, 3) := by decide +kernel
theorem dX0_follow_54 : decode cX0_follow 54 = .ok (.goto 9, 3) := by decide +kernel
theorem dX0_follow_57 : decode cX0_follow 57 = .ok (.aload_n 0, 1) := by decide +kernel
theorem dX0_follow_58 : decode cX0_follow 58 = .ok (.getfield 11, 3) := by decide +kernel
theorem dX0_follow_61 : decode cX0_follow 61 = .ok (.iconst 0, 1) := by decide +kernel
theorem dX0_follow_62 : decode cX0_follow 62 = .ok (.aaload, 1) := by decide +kernel
theorem dX0_follow_63 : decode cX0_follow 63 = .ok (.aastore, 1) := by decide +kernel
theorem dX0_follow_64 : decode cX0_follow 64 = .ok (.aload_n 0, 1) := by decide +kernel
theorem dX0_follow_65 : decode cX0_follow 65 = .ok (.getfield 11, 3) := by decide +kernel
theorem dX0_follow_68 : decode cX0_follow 68 = .ok (.iconst 0, 1) := by decide +kernel
theorem dX0_follow_69 : decode cX0_follow 69 = .ok (.aaload, 1) := by decide +kernel
theorem dX0_follow_70 : decode cX0_follow 70 = .ok (.aload_n 0, 1) := by decide +kernel
theorem dX0_follow_71 : decode cX0_follow 71 = .ok (.getfield 22, 3) := by decide +kernel
theorem dX0_follow_74 : decode cX0_follow 74 = .ok (.invokevirtual 66, 3) := by decide +kernel
theorem dX0_follow_77 : decode cX0_follow 77 = .ok (.iconst 0, 1) := by decide +kernel
theorem dX0_follow_78 : decode cX0_follow 78 = .ok (.istore_n 1, 1) := by decide +kernel
theorem dX0_follow_79 : decode cX0_follow 79 = .ok (.iload_n 1, 1) := by decide +kernel
theorem dX0_follow_80 : decode cX0_follow 80 = .ok (.aload_n 0, 1) := by decide +kernel
theorem dX0_follow_81 : decode cX0_follow 81 = .ok (.getfield 40, 3) := by decide +kernel
theorem dX0_follow_84 : decode cX0_follow 84 = .ok (.getfield 55, 3) := by decide +kernel
theorem dX0_follow_87 : decode cX0_follow 87 = .ok (.if_icmp .ge 55, 3) := by decide +kernel
theorem dX0_follow_90 : decode cX0_follow 90 = .ok (.aload_n 0, 1) := by decide +kernel
theorem dX0_follow_91 : decode cX0_follow 91 = .ok (.iload_n 1, 1) := by decide +kernel
theorem dX0_follow_92 : decode cX0_follow 92 = .ok (.invokevirtual 70, 3) := by decide +kernel
theorem dX0_follow_95 : decode cX0_follow 95 = .ok (.astore_n 2, 1) := by decide +kernel
theorem dX0_follow_96 : decode cX0_follow 96 = .ok (.aload_n 2, 1) := by decide +kernel
theorem dX0_follow_97 : decode cX0_follow 97 = .ok (.ifnonnull 7, 3) := by decide +kernel
theorem dX0_follow_100 : decode cX0_follow 100 = .ok (.iconst 0, 1) := by decide +kernel
theorem dX0_follow_101 : decode cX0_follow 101 = .ok (.goto 9, 3) := by decide +kernel
theorem dX0_follow_104 : decode cX0_follow 104 = .ok (.aload_n 0, 1) := by decide +kernel
theorem dX0_follow_105 : decode cX0_follow 105 = .ok (.iload_n 1, 1) := by decide +kernel
theorem dX0_follow_106 : decode cX0_follow 106 = .ok (.aload_n 2, 1) := by decide +kernel
theorem dX0_follow_107 : decode cX0_follow 107 = .ok (.invokevirtual 74, 3) := by decide +kernel
theorem dX0_follow_110 : decode cX0_follow 110 = .ok (.istore_n 3, 1) := by decide +kernel
theorem dX0_follow_111 : decode cX0_follow 111 = .ok (.iload_n 3, 1) := by decide +kernel
theorem dX0_follow_112 : decode cX0_follow 112 = .ok (.ifCond .ne 13, 3) := by decide +kernel
theorem dX0_follow_115 : decode cX0_follow 115 = .ok (.aload_n 2, 1) := by decide +kernel
theorem dX0_follow_116 : decode cX0_follow 116 = .ok (.ifnull 9, 3) := by decide +kernel
theorem dX0_follow_119 : decode cX0_follow 119 = .ok (.aload_n 0, 1) := by decide +kernel
theorem dX0_follow_120 : decode cX0_follow 120 = .ok (.iload_n 1, 1) := by decide +kernel
theorem dX0_follow_121 : decode cX0_follow 121 = .ok (.invokevirtual 78, 3) := by decide +kernel
theorem dX0_follow_124 : decode cX0_follow 124 = .ok (.istore_n 3, 1) := by decide +kernel
theorem dX0_follow_125 : decode cX0_follow 125 = .ok (.iload_n 3, 1) := by decide +kernel
theorem dX0_follow_126 : decode cX0_follow 126 = .ok (.ifCond .eq 10, 3) := by decide +kernel
theorem dX0_follow_129 : decode cX0_follow 129 = .ok (.aload_n 0, 1) := by decide +kernel
theorem dX0_follow_130 : decode cX0_follow 130 = .ok (.iload_n 1, 1) := by decide +kernel
theorem dX0_follow_131 : decode cX0_follow 131 = .ok (.putfield 36, 3) := by decide +kernel
theorem dX0_follow_134 : decode cX0_follow 134 = .ok (.iload_n 3, 1) := by decide +kernel
theorem dX0_follow_135 : decode cX0_follow 135 = .ok (.ireturn, 1) := by decide +kernel
theorem dX0_follow_136 : decode cX0_follow 136 = .ok (.iinc 1 1, 3) := by decide +kernel
theorem dX0_follow_139 : decode cX0_follow 139 = .ok (.goto (-60), 3) := by decide +kernel
theorem dX0_follow_142 : decode cX0_follow 142 = .ok (.iconst 0, 1) := by decide +kernel
theorem dX0_follow_143 : decode cX0_follow 143 = .ok (.ireturn, 1) := by decide +kernel
-- JudgedCode$Judge.judgeBranch
def f_X0_judgeBranch_170 (S : sh) (os0 : Nat) (xs1 : Int32) (xs2 : Int32) (D : dt) : Option (Int32 × dt) := cq (f_X0_settleBoth S os0 xs1 xs2 D) fun _ D180 => some ((0 : Int32), D180)
def f_X0_judgeBranch_281 (S : sh) (os0 : Nat) (xs1 : Int32) (xs2 : Int32) (xs3 : Int64) (D : dt) : Option (Int32 × dt) := cq (f_X0_narrowBoth S os0 xs1 xs2 xs3 D) fun _ D182 => some ((0 : Int32), D182)
def f_X0_judgeBranch_250 (S : sh) (o0 : Nat) (x1 : Int32) (x2 : Int32) (x3 : Int32) (x4 : Int32) (x5 : Int32) (D : dt) : Option (Int32 × dt) := if x5 = 0 then (rq (gR D o0 0) fun o184 => rq (gR D o184 4) fun o188 => ix x1 (sA S o188) <| f_X0_judgeBranch_281 S o0 x3 x2 ((gI D o188 x1.toNatClampNeg).toInt64) D) else (rq (gR D o0 4) fun o193 => rq (gR D o193 2) fun o197 => ix x4 (sA S o197) <| f_X0_judgeBranch_281 S o0 x3 x2 (gL D o197 x4.toNatClampNeg) D)
def f_X0_judgeBranch_233 (S : sh) (o0 : Nat) (x1 : Int32) (x2 : Int32) (x3 : Int32) (x4 : Int32) (x5 : Int32) (D : dt) : Option (Int32 × dt) := if x5 = 0 then (f_X0_judgeBranch_250 S o0 x1 x2 x3 x4 x5 D) else (rq (gR D o0 4) fun o203 => cq (f_X5_isOne S o203 x4 D) fun r208 D209 => if r208 = 0 then (rq (gR D209 o0 4) fun o211 => cq (f_X5_isOne S o211 x3 D209) fun r216 D217 => if r216 = 0 then (some ((0 : Int32), D217)) else (pq (f_X0_changedAbout x2) fun r220 => rq (gR D217 o0 4) fun o221 => rq (gR D217 o221 2) fun o225 => ix x3 (sA S o225) <| cq (f_X0_narrowBoth S o0 x4 r220 (gL D217 o225 x3.toNatClampNeg) D217) fun _ D231 => some ((0 : Int32), D231))) else (f_X0_judgeBranch_250 S o0 x1 x2 x3 x4 x5 D209))
def f_X0_judgeBranch_205 (S : sh) (o0 : Nat) (x1 : Int32) (x2 : Int32) (x3 : Int32) (x4 : Int32) (x5 : Int32) (x6 : Int32) (D : dt) : Option (Int32 × dt) := cq (f_X0_goBothWays S o0 x1 D) fun _ D233 => rq (gR D233 o0 0) fun o234 => cq (f_X4_isWide S o234 x1 D233) fun r239 D240 => if r239 = 0 then (some ((0 : Int32), D240)) else (if x6 = 0 then (pq (f_X0_comparesUnsigned x2) fun r244 => if r244 = 0 then (some ((0 : Int32), D240)) else (f_X0_judgeBranch_233 S o0 x1 x2 x3 x4 x5 D240)) else (f_X0_judgeBranch_233 S o0 x1 x2 x3 x4 x5 D240))
def f_X0_judgeBranch_175 (S : sh) (o0 : Nat) (x1 : Int32) (x2 : Int32) (x3 : Int32) (x4 : Int32) (x5 : Int32) (x6 : Int32) (D : dt) : Option (Int32 × dt) := rq (gR D o0 4) fun o246 => cq (f_X5_isNumber S o246 x3 D) fun r251 D252 => if r251 = 0 then (some ((3 : Int32), D252)) else (if x5 = 0 then (f_X0_judgeBranch_205 S o0 x1 x2 x3 x4 x5 x6 D252) else (rq (gR D252 o0 4) fun o255 => cq (f_X5_isNumber S o255 x4 D252) fun r260 D261 => if r260 = 0 then (some ((3 : Int32), D261)) else (f_X0_judgeBranch_205 S o0 x1 x2 x3 x4 x5 x6 D261)))
def f_X0_judgeBranch_109 (S : sh) (o0 : Nat) (x1 : Int32) (x2 : Int32) (x3 : Int32) (x4 : Int32) (x5 : Int32) (x6 : Int32) (xs0 : Int32) (D : dt) : Option (Int32 × dt) := rq (gR D o0 4) fun o263 => cq (f_X5_kind S o263 x3 D) fun r268 D269 => if r268 = (6 : Int32) then (if x6 = 0 then (f_X0_judgeBranch_175 S o0 x1 x2 x3 x4 x5 x6 D269) else (if xs0 = 0 then (f_X0_judgeBranch_175 S o0 x1 x2 x3 x4 x5 x6 D269) else (rq (gR D269 o0 0) fun o273 => cq (f_X4_isWide S o273 x1 D269) fun r278 D279 => if r278 = 0 then (f_X0_judgeBranch_175 S o0 x1 x2 x3 x4 x5 x6 D279) else (cq (f_X0_goBothWays S o0 x1 D279) fun _ D282 => rq (gR D282 o0 4) fun o283 => rq (gR D282 o283 1) fun o287 => ix x3 (sA S o287) <| if x2 = (1 : Int32) then (f_X0_judgeBranch_170 S o0 (gI D282 o287 x3.toNatClampNeg) (1 : Int32) D282) else (f_X0_judgeBranch_170 S o0 (gI D282 o287 x3.toNatClampNeg) (0 : Int32) D282))))) else (f_X0_judgeBranch_175 S o0 x1 x2 x3 x4 x5 x6 D269)
def f_X0_judgeBranch_108 (S : sh) (o0 : Nat) (x1 : Int32) (x2 : Int32) (x3 : Int32) (x4 : Int32) (x5 : Int32) (x6 : Int32) (D : dt) : Option (Int32 × dt) := f_X0_judgeBranch_109 S o0 x1 x2 x3 x4 x5 x6 (0 : Int32) D
def f_X0_judgeBranch_85 (S : sh) (o0 : Nat) (x1 : Int32) (x2 : Int32) (x3 : Int32) (x4 : Int32) (x5 : Int32) (xs0 : Int32) (D : dt) : Option (Int32 × dt) := if x5 = 0 then (rq (gR D o0 0) fun o294 => rq (gR D o294 4) fun o298 => ix x1 (sA S o298) <| if (gI D o298 x1.toNatClampNeg) = 0 then (f_X0_judgeBranch_109 S o0 x1 x2 x3 x4 x5 xs0 (1 : Int32) D) else (f_X0_judgeBranch_108 S o0 x1 x2 x3 x4 x5 xs0 D)) else (f_X0_judgeBranch_108 S o0 x1 x2 x3 x4 x5 xs0 D)
def f_X0_judgeBranch_80 (S : sh) (o0 : Nat) (x1 : Int32) (x2 : Int32) (x3 : Int32) (x4 : Int32) (x5 : Int32) (D : dt) : Option (Int32 × dt) := f_X0_judgeBranch_85 S o0 x1 x2 x3 x4 x5 (1 : Int32) D
def f_X0_judgeBranch_70 (S : sh) (o0 : Nat) (x1 : Int32) (x2 : Int32) (x3 : Int32) (x4 : Int32) (x5 : Int32) (D : dt) : Option (Int32 × dt) := if x2 = (1 : Int32) then (f_X0_judgeBranch_80 S o0 x1 x2 x3 x4 x5 D) else (if x2 = (5 : Int32) then (f_X0_judgeBranch_80 S o0 x1 x2 x3 x4 x5 D) else (f_X0_judgeBranch_85 S o0 x1 x2 x3 x4 x5 (0 : Int32) D))
def f_X0_judgeBranch (S : sh) (o0 : Nat) (x1 : Int32) (D : dt) : Option (Int32 × dt) := rq (gR D o0 0) fun o306 => cq (f_X4_code S o306 x1 D) fun r311 D312 => rq (gR D312 o0 0) fun o313 => rq (gR D312 o313 1) fun o317 => ix x1 (sA S o317) <| nm (gI D312 o317 x1.toNatClampNeg) fun y322 => rq (gR D312 o0 0) fun o323 => rq (gR D312 o323 2) fun o327 => ix x1 (sA S o327) <| nm (gI D312 o327 x1.toNatClampNeg) fun y332 => rq (gR D312 o0 0) fun o333 => cq (f_X4_byRegister S o333 x1 D312) fun r338 D339 => rq (gR D339 o0 4) fun o340 => cq (f_X5_isNone S o340 y322 D339) fun r345 D346 => if r345 = 0 then (if r338 = 0 then (f_X0_judgeBranch_70 S o0 x1 r311 y322 y332 r338 D346) else (rq (gR D346 o0 4) fun o349 => cq (f_X5_isNone S o349 y332 D346) fun r354 D355 => if r354 = 0 then (f_X0_judgeBranch_70 S o0 x1 r311 y322 y332 r338 D355) else (some ((2 : Int32), D355)))) else (some ((2 : Int32), D346))
-- JudgedCode$Judge.judgeJump
def f_X0_judgeJump (S : sh) (o0 : Nat) (x1 : Int32) (D : dt) : Option (Int32 × dt) := rq (gR D o0 0) fun o30 => cq (f_X4_code S o30 x1 D) fun r35 D36 => if r35 = (9 : Int32) then (nm (pI D36 o0 8 (0 : Int32)) fun D50 => rq (gR D50 o0 4) fun o51 => cq (f_X5_isNumber S o51 (0 : Int32) D50) fun r56 D57 => if r56 = 0 then (some ((5 : Int32), D57)) else (some ((0 : Int32), D57))) else (if r35 = 0 then (rq (gR D36 o0 0) fun o42 => cq (f_X4_distance S o42 x1 D36) fun r47 D48 => nm (pL D48 o0 9 ((x1.toInt64 + (1 : Int64)) + r47.toInt64)) fun D49 => some ((0 : Int32), D49)) else (cq (f_X0_judgeBranch S o0 x1 D36) fun r40 D41 => some (r40, D41)))
-- JudgedCode$Judge.judgeSlot
def f_X0_judgeSlot_147 (S : sh) (o0 : Nat) (x1 : Int32) (D : dt) : Option (Int32 × dt) := rq (gR D o0 0) fun o84 => cq (f_X4_code S o84 x1 D) fun r89 D90 => if r89 = (8 : Int32) then (rq (gR D90 o0 0) fun o95 => rq (gR D90 o95 4) fun o99 => ix x1 (sA S o99) <| cq (f_X0_judgeCall S o0 x1 (gI D90 o99 x1.toNatClampNeg) D90) fun r105 D106 => some (r105, D106)) else (cq (f_X0_judgeJump S o0 x1 D90) fun r93 D94 => some (r93, D94))
def f_X0_judgeSlot_141 (S : sh) (o0 : Nat) (x1 : Int32) (D : dt) : Option (Int32 × dt) := cq (f_X0_judgeArithmetic S o0 x1 D) fun r108 D109 => some (r108, D109)
def f_X0_judgeSlot (S : sh) (o0 : Nat) (x1 : Int32) (o2 : Nat) (D : dt) : Option (Int32 × dt) := rq (gR D o0 0) fun o110 => cq (f_X4_isBad S o110 x1 D) fun r115 D116 => if r115 = 0 then (rq (gR D116 o0 4) fun o118 => cq (f_X5_copyFrom S o118 o2 D116) fun _ D123 => nm (pI D123 o0 8 (1 : Int32)) fun D124 => nm (pL D124 o0 9 ((x1 + (1 : Int32)).toInt64)) fun D125 => nm (pI D125 o0 10 (0 : Int32)) fun D126 => rq (gR D126 o0 0) fun o127 => rq (gR D126 o127 0) fun o131 => ix x1 (sA S o131) <| if ((gI D126 o131 x1.toNatClampNeg) &&& (7 : Int32)) = 0 then (cq (f_X0_judgePair S o0 x1 D126) fun r138 D139 => some (r138, D139)) else if ((gI D126 o131 x1.toNatClampNeg) &&& (7 : Int32)) = 1 then (cq (f_X0_judgeLoad S o0 x1 D126) fun r142 D143 => some (r142, D143)) else if ((gI D126 o131 x1.toNatClampNeg) &&& (7 : Int32)) = 2 then (cq (f_X0_judgePut S o0 x1 (0 : Int32) D126) fun r146 D147 => some (r146, D147)) else if ((gI D126 o131 x1.toNatClampNeg) &&& (7 : Int32)) = 3 then (rq (gR D126 o0 0) fun o149 => cq (f_X4_isPlainPut S o149 x1 D126) fun r154 D155 => if r154 = 0 then (cq (f_X0_judgeChange S o0 x1 D155) fun r158 D159 => some (r158, D159)) else (cq (f_X0_judgePut S o0 x1 (1 : Int32) D155) fun r161 D162 => some (r161, D162))) else if ((gI D126 o131 x1.toNatClampNeg) &&& (7 : Int32)) = 4 then (f_X0_judgeSlot_141 S o0 x1 D126) else if ((gI D126 o131 x1.toNatClampNeg) &&& (7 : Int32)) = 5 then (f_X0_judgeSlot_147 S o0 x1 D126) else if ((gI D126 o131 x1.toNatClampNeg) &&& (7 : Int32)) = 6 then (f_X0_judgeSlot_147 S o0 x1 D126) else if ((gI D126 o131 x1.toNatClampNeg) &&& (7 : Int32)) = 7 then (f_X0_judgeSlot_141 S o0 x1 D126) else (f_X0_judgeSlot_147 S o0 x1 D126)) else (some ((1 : Int32), D116))
-- JudgedCode$Judge.canGoOn
def f_X0_canGoOn (S : sh) (o0 : Nat) (x1 : Int32) (x2 : Int64) (D : dt) : Option (Int32 × dt) := if (lg_cmp x2 x1.toInt64) ≤ 0 then (some ((0 : Int32), D)) else (rq (gR D o0 0) fun o14 => if 0 ≤ (lg_cmp x2 ((gI D o14 5).toInt64)) then (some ((0 : Int32), D)) else (rq (gR D o0 3) fun o19 => ix x2.toInt32 (sA S o19) <| if (gI D o19 x2.toInt32.toNatClampNeg) = 0 then (some ((1 : Int32), D)) else (some ((0 : Int32), D))))
-- JudgedCode$Judge.comeTo
def f_X0_comeTo_22 (o0 : Nat) (x1 : Int32) (o2 : Nat) (S : sh) (D : dt) : Option (Unit × sh × dt) := rq (gR D o0 2) fun o68 => ix x1 (sA S o68) <| oq (gR D o68 x1.toNatClampNeg) (none) fun o73 => if (gI D o73 0) = 0 then (rq (gR D o0 2) fun o78 => ix x1 (sA S o78) <| oq (gR D o78 x1.toNatClampNeg) (none) fun o83 => cq (f_X5_copyFrom S o83 o2 D) fun _ D88 => some ((), S, D88)) else (rq (gR D o0 2) fun o89 => ix x1 (sA S o89) <| oq (gR D o89 x1.toNatClampNeg) (none) fun o94 => cq (f_X5_joinWith S o94 o2 D) fun _ D99 => some ((), S, D99))
def f_X0_comeTo_21 (o0 : Nat) (x1 : Int32) (o2 : Nat) (os0 : Nat) (xs1 : Int32) (os2 : Nat) (S : sh) (D : dt) : Option (Unit × sh × dt) := ix xs1 (sA S os0) <| nm (pR D os0 xs1.toNatClampNeg (some os2)) fun D101 => f_X0_comeTo_22 o0 x1 o2 S D101
def f_X0_comeTo_17 (o0 : Nat) (x1 : Int32) (o2 : Nat) (os0 : Nat) (xs1 : Int32) (os2 : Nat) (S : sh) (D : dt) : Option (Unit × sh × dt) := c3 (f_X5_init os2 S D) fun _ S105 D104 => f_X0_comeTo_21 o0 x1 o2 os0 xs1 os2 S105 D104
def f_X0_comeTo (o0 : Nat) (x1 : Int32) (o2 : Nat) (S : sh) (D : dt) : Option (Unit × sh × dt) := rq (gR D o0 2) fun o114 => ix x1 (sA S o114) <| oq (gR D o114 x1.toNatClampNeg) (rq (gR D o0 2) fun o123 => f_X0_comeTo_17 o0 x1 o2 o123 x1 (sN S) (aS S 4 0 6) (aD S D)) fun o119 => f_X0_comeTo_22 o0 x1 o2 S D
-- JudgedCode$Judge.goOnBothWays
def f_X0_goOnBothWays_81 (S : sh) (D : dt) : Option (Int32 × sh × dt) := some ((0 : Int32), S, D)
def f_X0_goOnBothWays_61 (o0 : Nat) (S : sh) (D : dt) : Option (Int32 × sh × dt) := if (gI D o0 10) = 0 then (f_X0_goOnBothWays_81 S D) else (rq (gR D o0 5) fun o45 => c3 (f_X0_comeTo o0 ((gL D o0 11).toInt32) o45 S D) fun _ S51 D50 => f_X0_goOnBothWays_81 S51 D50)
def f_X0_goOnBothWays_41 (o0 : Nat) (S : sh) (D : dt) : Option (Int32 × sh × dt) := if (gI D o0 8) = 0 then (f_X0_goOnBothWays_61 o0 S D) else (rq (gR D o0 4) fun o59 => c3 (f_X0_comeTo o0 ((gL D o0 9).toInt32) o59 S D) fun _ S65 D64 => f_X0_goOnBothWays_61 o0 S65 D64)
def f_X0_goOnBothWays_19 (o0 : Nat) (x1 : Int32) (S : sh) (D : dt) : Option (Int32 × sh × dt) := if (gI D o0 10) = 0 then (f_X0_goOnBothWays_41 o0 S D) else (cq (f_X0_canGoOn S o0 x1 (gL D o0 11) D) fun r74 D75 => if r74 = 0 then (some ((6 : Int32), S, D75)) else (f_X0_goOnBothWays_41 o0 S D75))
def f_X0_goOnBothWays (o0 : Nat) (x1 : Int32) (S : sh) (D : dt) : Option (Int32 × sh × dt) := if (gI D o0 8) = 0 then (f_X0_goOnBothWays_19 o0 x1 S D) else (cq (f_X0_canGoOn S o0 x1 (gL D o0 9) D) fun r81 D82 => if r81 = 0 then (some ((6 : Int32), S, D82)) else (f_X0_goOnBothWays_19 o0 x1 S D82))
-- JudgedCode$Judge.follow
def f_X0_follow_125 (k79 : Nat → Int32 → sh → dt → Option (Int32 × sh × dt)) (o0 : Nat) (x1 : Int32) (x3 : Int32) (S : sh) (D : dt) : Option (Int32 × sh × dt) := if x3 = 0 then (nm (x1 + 1) fun y140 => k79 o0 y140 S D) else (nm (pI D o0 7 x1) fun D142 => some (x3, S, D142))
def f_X0_follow_124 (k79 : Nat → Int32 → sh → dt → Option (Int32 × sh × dt)) (o0 : Nat) (x1 : Int32) (xs0 : Int32) (S : sh) (D : dt) : Option (Int32 × sh × dt) := f_X0_follow_125 k79 o0 x1 xs0 S D
def f_X0_follow_110 (k79 : Nat → Int32 → sh → dt → Option (Int32 × sh × dt)) (o0 : Nat) (x1 : Int32) (o2 : Option Nat) (xs0 : Int32) (S : sh) (D : dt) : Option (Int32 × sh × dt) := oq o2 (if xs0 = 0 then (f_X0_follow_125 k79 o0 x1 xs0 S D) else (f_X0_follow_125 k79 o0 x1 xs0 S D)) fun o2 => if xs0 = 0 then (c3 (f_X0_goOnBothWays o0 x1 S D) fun r150 S152 D151 => f_X0_follow_124 k79 o0 x1 r150 S152 D151) else (f_X0_follow_125 k79 o0 x1 xs0 S D)
def f_X0_follow_79 : Nat → Nat → Int32 → sh → dt → Option (Int32 × sh × dt)
  | 0, _, _, _, _ => none
  | n + 1, o0, x1, S, D => rq (gR D o0 0) fun o159 => if (gI D o159 5) ≤ x1 then (some ((0 : Int32), S, D)) else (cq (f_X0_sceneAt S o0 x1 D) fun r165 D166 => oq r165 (f_X0_follow_110 (f_X0_follow_79 n) o0 x1 none (0 : Int32) S D166) fun o167 => cq (f_X0_judgeSlot S o0 x1 o167 D166) fun r171 D172 => f_X0_follow_110 (f_X0_follow_79 n) o0 x1 (some o167) r171 S D172)
def f_X0_follow_63 (o0 : Nat) (os0 : Nat) (xs1 : Int32) (os2 : Option Nat) (S : sh) (D : dt) : Option (Int32 × sh × dt) := oq os2 (ix xs1 (sA S os0) <| nm (pR D os0 xs1.toNatClampNeg none) fun D175 => rq (gR D175 o0 2) fun o176 => ix (0 : Int32) (sA S o176) <| oq (gR D175 o176 (0 : Int32).toNatClampNeg) (rq (gR D175 o0 4) fun o185 => none) fun o181 => rq (gR D175 o0 4) fun o189 => cq (f_X5_copyFrom S o181 o189 D175) fun _ D194 => nm ((0 : Int32)) fun y195 => f_X0_follow_79 LF o0 y195 S D194) fun os2 => ix xs1 (sA S os0) <| nm (pR D os0 xs1.toNatClampNeg (some os2)) fun D198 => rq (gR D198 o0 2) fun o199 => ix (0 : Int32) (sA S o199) <| oq (gR D198 o199 (0 : Int32).toNatClampNeg) (rq (gR D198 o0 4) fun o208 => none) fun o204 => rq (gR D198 o0 4) fun o212 => cq (f_X5_copyFrom S o204 o212 D198) fun _ D217 => nm ((0 : Int32)) fun y218 => f_X0_follow_79 LF o0 y218 S D217
def f_X0_follow_54 (o0 : Nat) (os0 : Nat) (xs1 : Int32) (os2 : Nat) (S : sh) (D : dt) : Option (Int32 × sh × dt) := f_X0_follow_63 o0 os0 xs1 (some os2) S D
def f_X0_follow_50 (o0 : Nat) (os0 : Nat) (xs1 : Int32) (os2 : Nat) (S : sh) (D : dt) : Option (Int32 × sh × dt) := c3 (f_X5_init os2 S D) fun _ S223 D222 => f_X0_follow_54 o0 os0 xs1 os2 S223 D222
def f_X0_follow (o0 : Nat) (S : sh) (D : dt) : Option (Int32 × sh × dt) := cq (f_X0_forgetScenes S o0 D) fun _ D232 => rq (gR D232 o0 0) fun o233 => if (gI D232 o233 5) = 0 then (nm (pI D232 o0 7 (0 : Int32)) fun D276 => some ((6 : Int32), S, D276)) else (cq (f_X0_markSeconds S o0 D232) fun _ D239 => rq (gR D239 o0 4) fun o240 => cq (f_X5_begin S o240 D239) fun _ D245 => rq (gR D245 o0 2) fun o246 => rq (gR D245 o0 2) fun o250 => ix (0 : Int32) (sA S o250) <| oq (gR D245 o250 (0 : Int32).toNatClampNeg) (f_X0_follow_50 o0 o246 (0 : Int32) (sN S) (aS S 4 0 6) (aD S D245)) fun o255 => rq (gR D245 o0 2) fun o265 => ix (0 : Int32) (sA S o265) <| oq (gR D245 o265 (0 : Int32).toNatClampNeg) (f_X0_follow_63 o0 o246 (0 : Int32) none S D245) fun o270 => f_X0_follow_63 o0 o246 (0 : Int32) (some o270) S D245)
theorem mk_X0_judgeBranch : MkV yX0_judgeBranch RX0 cX0_judgeBranch 8 (some .int) 1 := ⟨⟨lk_790, lk_35, lk_118, (tb_in (i := 791) (by decide +kernel) (by decide +kernel))⟩, by decide +kernel⟩
theorem mk_X0_judgeJump : MkV yX0_judgeJump RX0 cX0_judgeJump 3 (some .int) 1 := ⟨⟨lk_782, lk_34, lk_118, (tb_in (i := 783) (by decide +kernel) (by decide +kernel))⟩, by decide +kernel⟩
theorem mk_X0_judgeSlot : MkV yX0_judgeSlot RX0 cX0_judgeSlot 3 (some .int) 2 := ⟨⟨lk_496, lk_2, lk_118, (tb_in (i := 497) (by decide +kernel) (by decide +kernel))⟩, by decide +kernel⟩
theorem mk_X0_canGoOn : MkV yX0_canGoOn RX0 cX0_canGoOn 4 (some .boolean) 2 := ⟨⟨lk_837, lk_41, lk_118, (tb_in (i := 838) (by decide +kernel) (by decide +kernel))⟩, by decide +kernel⟩
theorem mk_X0_comeTo : MkV yX0_comeTo RX0 cX0_comeTo 3 none 2 := ⟨⟨lk_841, lk_42, lk_118, (tb_in (i := 842) (by decide +kernel) (by decide +kernel))⟩, by decide +kernel⟩
theorem mk_X0_goOnBothWays : MkV yX0_goOnBothWays RX0 cX0_goOnBothWays 2 (some .int) 1 := ⟨⟨lk_833, lk_40, lk_118, (tb_in (i := 834) (by decide +kernel) (by decide +kernel))⟩, by decide +kernel⟩
theorem mk_X0_follow : MkV yX0_follow RX0 cX0_follow 4 (some .int) 0 := ⟨⟨lk_458, lk_459, lk_118, (tb_in (i := 460) (by decide +kernel) (by decide +kernel))⟩, by decide +kernel⟩
section
variable {p : Program} {l : Launch} {e : Env} {R : Room} {s : State} {m : MethodId} {args : Array Value} {below : List Frame} {meth : Method} {c : Code} {H : Heap} {locs : List Loc} {G : va_G} {cA : Nat → ClassId} {S : sh} {D : dt} {ad : Nat → Nat} {A : Nat → Prop}
set_option maxHeartbeats 4000000 in
set_option maxRecDepth 100000 in
theorem w_X0_judgeBranch_170 {r : Int32} {D' : dt} (hC : Cx RX0 cX0_judgeBranch 8 (some .int) p s m args meth c) (hR : 3 ≤ R.frames ∧ 73 ≤ R.locals) : ∀ (os0 as0 : Nat) (xs1 : Int32) (xs2 : Int32) (D : dt) (H : Heap) (locs : List Loc) (ls : Array Slot), Is S ad os0 as0 0 → Wd G cA S D ad A s H locs → lv_has ls 8 [] → f_X0_judgeBranch_170 S os0 xs1 xs2 D = some (r, D') → W p l e R s m args below meth c H locs 0 0 (MQ below (Qn (some (.int r)) True (wpost G cA S D' ad A) A) args s 0 0 A) (F0 m 170 ls [.int xs2, .int xs1, .ref as0]) := by
  obtain ⟨hx, hb, -⟩ := id hC
  intro os0 as0 xs1 xs2 D H locs ls his0 hw hl h
  unfold f_X0_judgeBranch_170 at h
  obtain ⟨_, D180, hq179, h⟩ := cq_i h
  refine r_cV (st' := []) [.int xs1, .int xs2] [] hC hw kc_0 his0 (k_X0_settleBoth _ his0 hq179) mk_X0_settleBoth lk_796 ⟨Nat.le_trans (by decide) hR.1, Nat.le_trans (by decide) hR.2⟩ ⟨Nat.zero_le _, Nat.zero_le _⟩ rfl hl.1 rfl rfl (Nat.le_of_ble_eq_true rfl) dX0_judgeBranch_170 (fun hP H locs hw => ?_)
  refine lv_iconst (v := 0) hx hb dX0_judgeBranch_173 (by decide) ?_
  cases h
  exact r_iret hC hw dX0_judgeBranch_174
set_option maxHeartbeats 4000000 in
set_option maxRecDepth 100000 in
theorem w_X0_judgeBranch_281 {r : Int32} {D' : dt} (hC : Cx RX0 cX0_judgeBranch 8 (some .int) p s m args meth c) (hR : 3 ≤ R.frames ∧ 73 ≤ R.locals) : ∀ (os0 as0 : Nat) (xs1 : Int32) (xs2 : Int32) (xs3 : Int64) (D : dt) (H : Heap) (locs : List Loc) (ls : Array Slot), Is S ad os0 as0 0 → Wd G cA S D ad A s H locs → lv_has ls 8 [] → f_X0_judgeBranch_281 S os0 xs1 xs2 xs3 D = some (r, D') → W p l e R s m args below meth c H locs 0 0 (MQ below (Qn (some (.int r)) True (wpost G cA S D' ad A) A) args s 0 0 A) (F0 m 281 ls [.long xs3, .int xs2, .int xs1, .ref as0]) := by
  obtain ⟨hx, hb, -⟩ := id hC
  intro os0 as0 xs1 xs2 xs3 D H locs ls his0 hw hl h
  unfold f_X0_judgeBranch_281 at h
  obtain ⟨_, D182, hq181, h⟩ := cq_i h
  refine r_cV (st' := []) [.int xs1, .int xs2, .long xs3] [] hC hw kc_0 his0 (k_X0_narrowBoth _ his0 hq181) mk_X0_narrowBoth lk_813 ⟨Nat.le_trans (by decide) hR.1, Nat.le_trans (by decide) hR.2⟩ ⟨Nat.zero_le _, Nat.zero_le _⟩ rfl hl.1 rfl rfl (Nat.le_of_ble_eq_true rfl) dX0_judgeBranch_281 (fun hP H locs hw => ?_)
  refine lv_goto (tgt := 317) hx hb dX0_judgeBranch_284 (by decide) ?_
  refine lv_iconst (v := 0) hx hb dX0_judgeBranch_317 (by decide) ?_
  cases h
  exact r_iret hC hw dX0_judgeBranch_318
set_option maxHeartbeats 4000000 in
set_option maxRecDepth 100000 in
theorem w_X0_judgeBranch_250 {r : Int32} {D' : dt} (hC : Cx RX0 cX0_judgeBranch 8 (some .int) p s m args meth c) (hR : 3 ≤ R.frames ∧ 73 ≤ R.locals) : ∀ (o0 a0 : Nat) (x1 : Int32) (x2 : Int32) (x3 : Int32) (x4 : Int32) (x5 : Int32) (D : dt) (H : Heap) (locs : List Loc) (ls : Array Slot), Is S ad o0 a0 0 → Wd G cA S D ad A s H locs → lv_has ls 8 [(0, .ref a0), (1, .int x1), (2, .int x2), (3, .int x3), (4, .int x4), (5, .int x5)] → f_X0_judgeBranch_250 S o0 x1 x2 x3 x4 x5 D = some (r, D') → W p l e R s m args below meth c H locs 0 0 (MQ below (Qn (some (.int r)) True (wpost G cA S D' ad A) A) args s 0 0 A) (F0 m 250 ls []) := by
  obtain ⟨hx, hb, -⟩ := id hC
  intro o0 a0 x1 x2 x3 x4 x5 D H locs ls hi0 hw hl h
  unfold f_X0_judgeBranch_250 at h
  refine lv_aload_n hx hb dX0_judgeBranch_250 rfl (lv_at hl 0 rfl) ?_
  refine lv_iload_n hx hb dX0_judgeBranch_251 rfl (lv_at hl 3 rfl) ?_
  refine lv_iload_n hx hb dX0_judgeBranch_252 rfl (lv_at hl 2 rfl) ?_
  refine lv_iload hx hb dX0_judgeBranch_253 (lv_at hl 5 rfl) ?_
  refine lv_if_eq (tgt := 271) hx hb dX0_judgeBranch_255 (by decide) (fun c183 => ?_) (fun c183 => ?_)
  · have h := i_yes c183 h
    refine lv_aload_n hx hb dX0_judgeBranch_271 rfl (lv_at hl 0 rfl) ?_
    obtain ⟨o184, ho187, h⟩ := rq_i h
    refine r_getR hC hw kc_0 hi0 0 rfl lk_317 dX0_judgeBranch_272 rfl ho187 (fun a185 hi186 => ?_)
    obtain ⟨o188, ho191, h⟩ := rq_i h
    refine r_getR hC hw kc_3 hi186 4 rfl lk_155 dX0_judgeBranch_275 rfl ho191 (fun a189 hi190 => ?_)
    refine lv_iload_n hx hb dX0_judgeBranch_278 rfl (lv_at hl 1 rfl) ?_
    obtain ⟨hn192, h⟩ := ix_i h
    refine r_iald hC hw hi190 hn192 dX0_judgeBranch_279 ?_
    refine lv_i2l (v := (gI D o188 x1.toNatClampNeg).toInt64) hx hb dX0_judgeBranch_280 rfl ?_
    exact w_X0_judgeBranch_281 hC hR o0 a0 x3 x2 ((gI D o188 x1.toNatClampNeg).toInt64) _ _ _ _ hi0 hw (lv_sub hl [] rfl) h
  · have h := i_no c183 h
    refine lv_aload_n hx hb dX0_judgeBranch_258 rfl (lv_at hl 0 rfl) ?_
    obtain ⟨o193, ho196, h⟩ := rq_i h
    refine r_getR hC hw kc_0 hi0 4 rfl lk_321 dX0_judgeBranch_259 rfl ho196 (fun a194 hi195 => ?_)
    obtain ⟨o197, ho200, h⟩ := rq_i h
    refine r_getR hC hw kc_4 hi195 2 rfl lk_268 dX0_judgeBranch_262 rfl ho200 (fun a198 hi199 => ?_)
    refine lv_iload hx hb dX0_judgeBranch_265 (lv_at hl 4 rfl) ?_
    obtain ⟨hn201, h⟩ := ix_i h
    refine r_lald hC hw hi199 hn201 dX0_judgeBranch_267 ?_
    refine lv_goto (tgt := 281) hx hb dX0_judgeBranch_268 (by decide) ?_
    exact w_X0_judgeBranch_281 hC hR o0 a0 x3 x2 (gL D o197 x4.toNatClampNeg) _ _ _ _ hi0 hw (lv_sub hl [] rfl) h
set_option maxHeartbeats 4000000 in
set_option maxRecDepth 100000 in
theorem w_X0_judgeBranch_233 {r : Int32} {D' : dt} (hC : Cx RX0 cX0_judgeBranch 8 (some .int) p s m args meth c) (hR : 3 ≤ R.frames ∧ 73 ≤ R.locals) : ∀ (o0 a0 : Nat) (x1 : Int32) (x2 : Int32) (x3 : Int32) (x4 : Int32) (x5 : Int32) (D : dt) (H : Heap) (locs : List Loc) (ls : Array Slot), Is S ad o0 a0 0 → Wd G cA S D ad A s H locs → lv_has ls 8 [(0, .ref a0), (1, .int x1), (2, .int x2), (3, .int x3), (4, .int x4), (5, .int x5)] → f_X0_judgeBranch_233 S o0 x1 x2 x3 x4 x5 D = some (r, D') → W p l e R s m args below meth c H locs 0 0 (MQ below (Qn (some (.int r)) True (wpost G cA S D' ad A) A) args s 0 0 A) (F0 m 233 ls []) := by
  obtain ⟨hx, hb, -⟩ := id hC
  intro o0 a0 x1 x2 x3 x4 x5 D H locs ls hi0 hw hl h
  unfold f_X0_judgeBranch_233 at h
  refine lv_iload hx hb dX0_judgeBranch_233 (lv_at hl 5 rfl) ?_
  refine lv_if_eq (tgt := 250) hx hb dX0_judgeBranch_235 (by decide) (fun c202 => ?_) (fun c202 => ?_)
  · have h := i_yes c202 h
    exact w_X0_judgeBranch_250 hC hR o0 a0 x1 x2 x3 x4 x5 _ _ _ _ hi0 hw (lv_sub hl [0, 1, 2, 3, 4, 5] rfl) h
  · have h := i_no c202 h
    refine lv_aload_n hx hb dX0_judgeBranch_238 rfl (lv_at hl 0 rfl) ?_
    obtain ⟨o203, ho206, h⟩ := rq_i h
    refine r_getR hC hw kc_0 hi0 4 rfl lk_321 dX0_judgeBranch_239 rfl ho206 (fun a204 hi205 => ?_)
    refine lv_iload hx hb dX0_judgeBranch_242 (lv_at hl 4 rfl) ?_
    obtain ⟨r208, D209, hq207, h⟩ := cq_i h
    refine r_cV (st' := [.int r208]) [.int x4] [] hC hw kc_4 hi205 (k_X5_isOne _ hi205 hq207) mk_X5_isOne lk_809 ⟨Nat.le_trans (by decide) hR.1, Nat.le_trans (by decide) hR.2⟩ ⟨Nat.zero_le _, Nat.zero_le _⟩ rfl hl.1 rfl rfl (Nat.le_of_ble_eq_true rfl) dX0_judgeBranch_244 (fun hP H locs hw => ?_)
    refine lv_if_eq (tgt := 287) hx hb dX0_judgeBranch_247 (by decide) (fun c210 => ?_) (fun c210 => ?_)
    · have h := i_yes c210 h
      refine lv_aload_n hx hb dX0_judgeBranch_287 rfl (lv_at hl 0 rfl) ?_
      obtain ⟨o211, ho214, h⟩ := rq_i h
      refine r_getR hC hw kc_0 hi0 4 rfl lk_321 dX0_judgeBranch_288 rfl ho214 (fun a212 hi213 => ?_)
      refine lv_iload_n hx hb dX0_judgeBranch_291 rfl (lv_at hl 3 rfl) ?_
      obtain ⟨r216, D217, hq215, h⟩ := cq_i h
      refine r_cV (st' := [.int r216]) [.int x3] [] hC hw kc_4 hi213 (k_X5_isOne _ hi213 hq215) mk_X5_isOne lk_809 ⟨Nat.le_trans (by decide) hR.1, Nat.le_trans (by decide) hR.2⟩ ⟨Nat.zero_le _, Nat.zero_le _⟩ rfl hl.1 rfl rfl (Nat.le_of_ble_eq_true rfl) dX0_judgeBranch_292 (fun hP H locs hw => ?_)
      refine lv_if_eq (tgt := 317) hx hb dX0_judgeBranch_295 (by decide) (fun c218 => ?_) (fun c218 => ?_)
      · have h := i_yes c218 h
        refine lv_iconst (v := 0) hx hb dX0_judgeBranch_317 (by decide) ?_
        cases h
        exact r_iret hC hw dX0_judgeBranch_318
      · have h := i_no c218 h
        refine lv_aload_n hx hb dX0_judgeBranch_298 rfl (lv_at hl 0 rfl) ?_
        refine lv_iload hx hb dX0_judgeBranch_299 (lv_at hl 4 rfl) ?_
        refine lv_iload_n hx hb dX0_judgeBranch_301 rfl (lv_at hl 2 rfl) ?_
        obtain ⟨r220, hq219, h⟩ := pq_i h
        refine r_cS (st' := [.int r220, .int x4, .ref a0]) [.int x2] [.int x4, .ref a0] hC hw (k_X0_changedAbout _ hq219) mk_X0_changedAbout lk_828 ⟨Nat.le_trans (by decide) hR.1, Nat.le_trans (by decide) hR.2⟩ ⟨Nat.zero_le _, Nat.zero_le _⟩ rfl hl.1 rfl rfl (Nat.le_of_ble_eq_true rfl) dX0_judgeBranch_302 (fun hP H locs hw => ?_)
        refine lv_aload_n hx hb dX0_judgeBranch_305 rfl (lv_at hl 0 rfl) ?_
        obtain ⟨o221, ho224, h⟩ := rq_i h
        refine r_getR hC hw kc_0 hi0 4 rfl lk_321 dX0_judgeBranch_306 rfl ho224 (fun a222 hi223 => ?_)
        obtain ⟨o225, ho228, h⟩ := rq_i h
        refine r_getR hC hw kc_4 hi223 2 rfl lk_268 dX0_judgeBranch_309 rfl ho228 (fun a226 hi227 => ?_)
        refine lv_iload_n hx hb dX0_judgeBranch_312 rfl (lv_at hl 3 rfl) ?_
        obtain ⟨hn229, h⟩ := ix_i h
        refine r_lald hC hw hi227 hn229 dX0_judgeBranch_313 ?_
        obtain ⟨_, D231, hq230, h⟩ := cq_i h
        refine r_cV (st' := []) [.int x4, .int r220, .long (gL D217 o225 x3.toNatClampNeg)] [] hC hw kc_0 hi0 (k_X0_narrowBoth _ hi0 hq230) mk_X0_narrowBoth lk_813 ⟨Nat.le_trans (by decide) hR.1, Nat.le_trans (by decide) hR.2⟩ ⟨Nat.zero_le _, Nat.zero_le _⟩ rfl hl.1 rfl rfl (Nat.le_of_ble_eq_true rfl) dX0_judgeBranch_314 (fun hP H locs hw => ?_)
        refine lv_iconst (v := 0) hx hb dX0_judgeBranch_317 (by decide) ?_
        cases h
        exact r_iret hC hw dX0_judgeBranch_318
    · have h := i_no c210 h
      exact w_X0_judgeBranch_250 hC hR o0 a0 x1 x2 x3 x4 x5 _ _ _ _ hi0 hw (lv_sub hl [0, 1, 2, 3, 4, 5] rfl) h
set_option maxHeartbeats 4000000 in
set_option maxRecDepth 100000 in
theorem w_X0_judgeBranch_205 {r : Int32} {D' : dt} (hC : Cx RX0 cX0_judgeBranch 8 (some .int) p s m args meth c) (hR : 3 ≤ R.frames ∧ 73 ≤ R.locals) : ∀ (o0 a0 : Nat) (x1 : Int32) (x2 : Int32) (x3 : Int32) (x4 : Int32) (x5 : Int32) (x6 : Int32) (D : dt) (H : Heap) (locs : List Loc) (ls : Array Slot), Is S ad o0 a0 0 → Wd G cA S D ad A s H locs → lv_has ls 8 [(0, .ref a0), (1, .int x1), (2, .int x2), (3, .int x3), (4, .int x4), (5, .int x5), (6, .int x6)] → f_X0_judgeBranch_205 S o0 x1 x2 x3 x4 x5 x6 D = some (r, D') → W p l e R s m args below meth c H locs 0 0 (MQ below (Qn (some (.int r)) True (wpost G cA S D' ad A) A) args s 0 0 A) (F0 m 205 ls []) := by
  obtain ⟨hx, hb, -⟩ := id hC
  intro o0 a0 x1 x2 x3 x4 x5 x6 D H locs ls hi0 hw hl h
  unfold f_X0_judgeBranch_205 at h
  refine lv_aload_n hx hb dX0_judgeBranch_205 rfl (lv_at hl 0 rfl) ?_
  refine lv_iload_n hx hb dX0_judgeBranch_206 rfl (lv_at hl 1 rfl) ?_
  obtain ⟨_, D233, hq232, h⟩ := cq_i h
  refine r_cV (st' := []) [.int x1] [] hC hw kc_0 hi0 (k_X0_goBothWays _ hi0 hq232) mk_X0_goBothWays lk_792 ⟨Nat.le_trans (by decide) hR.1, Nat.le_trans (by decide) hR.2⟩ ⟨Nat.zero_le _, Nat.zero_le _⟩ rfl hl.1 rfl rfl (Nat.le_of_ble_eq_true rfl) dX0_judgeBranch_207 (fun hP H locs hw => ?_)
  refine lv_aload_n hx hb dX0_judgeBranch_210 rfl (lv_at hl 0 rfl) ?_
  obtain ⟨o234, ho237, h⟩ := rq_i h
  refine r_getR hC hw kc_0 hi0 0 rfl lk_317 dX0_judgeBranch_211 rfl ho237 (fun a235 hi236 => ?_)
  refine lv_iload_n hx hb dX0_judgeBranch_214 rfl (lv_at hl 1 rfl) ?_
  obtain ⟨r239, D240, hq238, h⟩ := cq_i h
  refine r_cV (st' := [.int r239]) [.int x1] [] hC hw kc_3 hi236 (k_X4_isWide _ hi236 hq238) mk_X4_isWide lk_673 ⟨Nat.le_trans (by decide) hR.1, Nat.le_trans (by decide) hR.2⟩ ⟨Nat.zero_le _, Nat.zero_le _⟩ rfl hl.1 rfl rfl (Nat.le_of_ble_eq_true rfl) dX0_judgeBranch_215 (fun hP H locs hw => ?_)
  refine lv_if_eq (tgt := 317) hx hb dX0_judgeBranch_218 (by decide) (fun c241 => ?_) (fun c241 => ?_)
  · have h := i_yes c241 h
    refine lv_iconst (v := 0) hx hb dX0_judgeBranch_317 (by decide) ?_
    cases h
    exact r_iret hC hw dX0_judgeBranch_318
  · have h := i_no c241 h
    refine lv_iload hx hb dX0_judgeBranch_221 (lv_at hl 6 rfl) ?_
    refine lv_if_ne (tgt := 233) hx hb dX0_judgeBranch_223 (by decide) (fun c242 => ?_) (fun c242 => ?_)
    · have h := i_no c242 h
      exact w_X0_judgeBranch_233 hC hR o0 a0 x1 x2 x3 x4 x5 _ _ _ _ hi0 hw (lv_sub hl [0, 1, 2, 3, 4, 5] rfl) h
    · have h := i_yes c242 h
      refine lv_iload_n hx hb dX0_judgeBranch_226 rfl (lv_at hl 2 rfl) ?_
      obtain ⟨r244, hq243, h⟩ := pq_i h
      refine r_cS (st' := [.int r244]) [.int x2] [] hC hw (k_X0_comparesUnsigned _ hq243) mk_X0_comparesUnsigned lk_806 ⟨Nat.le_trans (by decide) hR.1, Nat.le_trans (by decide) hR.2⟩ ⟨Nat.zero_le _, Nat.zero_le _⟩ rfl hl.1 rfl rfl (Nat.le_of_ble_eq_true rfl) dX0_judgeBranch_227 (fun hP H locs hw => ?_)
      refine lv_if_eq (tgt := 317) hx hb dX0_judgeBranch_230 (by decide) (fun c245 => ?_) (fun c245 => ?_)
      · have h := i_yes c245 h
        refine lv_iconst (v := 0) hx hb dX0_judgeBranch_317 (by decide) ?_
        cases h
        exact r_iret hC hw dX0_judgeBranch_318
      · have h := i_no c245 h
        exact w_X0_judgeBranch_233 hC hR o0 a0 x1 x2 x3 x4 x5 _ _ _ _ hi0 hw (lv_sub hl [0, 1, 2, 3, 4, 5] rfl) h
set_option maxHeartbeats 4000000 in
set_option maxRecDepth 100000 in
theorem w_X0_judgeBranch_175 {r : Int32} {D' : dt} (hC : Cx RX0 cX0_judgeBranch 8 (some .int) p s m args meth c) (hR : 3 ≤ R.frames ∧ 73 ≤ R.locals) : ∀ (o0 a0 : Nat) (x1 : Int32) (x2 : Int32) (x3 : Int32) (x4 : Int32) (x5 : Int32) (x6 : Int32) (D : dt) (H : Heap) (locs : List Loc) (ls : Array Slot), Is S ad o0 a0 0 → Wd G cA S D ad A s H locs → lv_has ls 8 [(0, .ref a0), (1, .int x1), (2, .int x2), (3, .int x3), (4, .int x4), (5, .int x5), (6, .int x6)] → f_X0_judgeBranch_175 S o0 x1 x2 x3 x4 x5 x6 D = some (r, D') → W p l e R s m args below meth c H locs 0 0 (MQ below (Qn (some (.int r)) True (wpost G cA S D' ad A) A) args s 0 0 A) (F0 m 175 ls []) := by
  obtain ⟨hx, hb, -⟩ := id hC
  intro o0 a0 x1 x2 x3 x4 x5 x6 D H locs ls hi0 hw hl h
  unfold f_X0_judgeBranch_175 at h
  refine lv_aload_n hx hb dX0_judgeBranch_175 rfl (lv_at hl 0 rfl) ?_
  obtain ⟨o246, ho249, h⟩ := rq_i h
  refine r_getR hC hw kc_0 hi0 4 rfl lk_321 dX0_judgeBranch_176 rfl ho249 (fun a247 hi248 => ?_)
  refine lv_iload_n hx hb dX0_judgeBranch_179 rfl (lv_at hl 3 rfl) ?_
  obtain ⟨r251, D252, hq250, h⟩ := cq_i h
  refine r_cV (st' := [.int r251]) [.int x3] [] hC hw kc_4 hi248 (k_X5_isNumber _ hi248 hq250) mk_X5_isNumber lk_639 ⟨Nat.le_trans (by decide) hR.1, Nat.le_trans (by decide) hR.2⟩ ⟨Nat.zero_le _, Nat.zero_le _⟩ rfl hl.1 rfl rfl (Nat.le_of_ble_eq_true rfl) dX0_judgeBranch_180 (fun hP H locs hw => ?_)
  refine lv_if_eq (tgt := 203) hx hb dX0_judgeBranch_183 (by decide) (fun c253 => ?_) (fun c253 => ?_)
  · have h := i_yes c253 h
    refine lv_iconst (v := 3) hx hb dX0_judgeBranch_203 (by decide) ?_
    cases h
    exact r_iret hC hw dX0_judgeBranch_204
  · have h := i_no c253 h
    refine lv_iload hx hb dX0_judgeBranch_186 (lv_at hl 5 rfl) ?_
    refine lv_if_eq (tgt := 205) hx hb dX0_judgeBranch_188 (by decide) (fun c254 => ?_) (fun c254 => ?_)
    · have h := i_yes c254 h
      exact w_X0_judgeBranch_205 hC hR o0 a0 x1 x2 x3 x4 x5 x6 _ _ _ _ hi0 hw (lv_sub hl [0, 1, 2, 3, 4, 5, 6] rfl) h
    · have h := i_no c254 h
      refine lv_aload_n hx hb dX0_judgeBranch_191 rfl (lv_at hl 0 rfl) ?_
      obtain ⟨o255, ho258, h⟩ := rq_i h
      refine r_getR hC hw kc_0 hi0 4 rfl lk_321 dX0_judgeBranch_192 rfl ho258 (fun a256 hi257 => ?_)
      refine lv_iload hx hb dX0_judgeBranch_195 (lv_at hl 4 rfl) ?_
      obtain ⟨r260, D261, hq259, h⟩ := cq_i h
      refine r_cV (st' := [.int r260]) [.int x4] [] hC hw kc_4 hi257 (k_X5_isNumber _ hi257 hq259) mk_X5_isNumber lk_639 ⟨Nat.le_trans (by decide) hR.1, Nat.le_trans (by decide) hR.2⟩ ⟨Nat.zero_le _, Nat.zero_le _⟩ rfl hl.1 rfl rfl (Nat.le_of_ble_eq_true rfl) dX0_judgeBranch_197 (fun hP H locs hw => ?_)
      refine lv_if_ne (tgt := 205) hx hb dX0_judgeBranch_200 (by decide) (fun c262 => ?_) (fun c262 => ?_)
      · have h := i_no c262 h
        exact w_X0_judgeBranch_205 hC hR o0 a0 x1 x2 x3 x4 x5 x6 _ _ _ _ hi0 hw (lv_sub hl [0, 1, 2, 3, 4, 5, 6] rfl) h
      · have h := i_yes c262 h
        refine lv_iconst (v := 3) hx hb dX0_judgeBranch_203 (by decide) ?_
        cases h
        exact r_iret hC hw dX0_judgeBranch_204
set_option maxHeartbeats 4000000 in
set_option maxRecDepth 100000 in
theorem w_X0_judgeBranch_109 {r : Int32} {D' : dt} (hC : Cx RX0 cX0_judgeBranch 8 (some .int) p s m args meth c) (hR : 3 ≤ R.frames ∧ 73 ≤ R.locals) : ∀ (o0 a0 : Nat) (x1 : Int32) (x2 : Int32) (x3 : Int32) (x4 : Int32) (x5 : Int32) (x6 : Int32) (xs0 : Int32) (D : dt) (H : Heap) (locs : List Loc) (ls : Array Slot), Is S ad o0 a0 0 → Wd G cA S D ad A s H locs → lv_has ls 8 [(0, .ref a0), (1, .int x1), (2, .int x2), (3, .int x3), (4, .int x4), (5, .int x5), (6, .int x6)] → f_X0_judgeBranch_109 S o0 x1 x2 x3 x4 x5 x6 xs0 D = some (r, D') → W p l e R s m args below meth c H locs 0 0 (MQ below (Qn (some (.int r)) True (wpost G cA S D' ad A) A) args s 0 0 A) (F0 m 109 ls [.int xs0]) := by
  obtain ⟨hx, hb, -⟩ := id hC
  intro o0 a0 x1 x2 x3 x4 x5 x6 xs0 D H locs ls hi0 hw hl h
  unfold f_X0_judgeBranch_109 at h
  refine lv_istore (lv' := [(7, .int xs0), (0, .ref a0), (1, .int x1), (2, .int x2), (3, .int x3), (4, .int x4), (5, .int x5), (6, .int x6)]) hx hb dX0_judgeBranch_109 hl (by decide) rfl (fun ls hl => ?_)
  refine lv_aload_n hx hb dX0_judgeBranch_111 rfl (lv_at hl 1 rfl) ?_
  obtain ⟨o263, ho266, h⟩ := rq_i h
  refine r_getR hC hw kc_0 hi0 4 rfl lk_321 dX0_judgeBranch_112 rfl ho266 (fun a264 hi265 => ?_)
  refine lv_iload_n hx hb dX0_judgeBranch_115 rfl (lv_at hl 4 rfl) ?_
  obtain ⟨r268, D269, hq267, h⟩ := cq_i h
  refine r_cV (st' := [.int r268]) [.int x3] [] hC hw kc_4 hi265 (k_X5_kind _ hi265 hq267) mk_X5_kind lk_587 ⟨Nat.le_trans (by decide) hR.1, Nat.le_trans (by decide) hR.2⟩ ⟨Nat.zero_le _, Nat.zero_le _⟩ rfl hl.1 rfl rfl (Nat.le_of_ble_eq_true rfl) dX0_judgeBranch_116 (fun hP H locs hw => ?_)
  refine lv_bipush (v := 6) hx hb dX0_judgeBranch_119 (by decide) ?_
  refine lv_icmp_ne (tgt := 175) hx hb dX0_judgeBranch_121 (by decide) (fun c270 => ?_) (fun c270 => ?_)
  · have h := i_no c270 h
    exact w_X0_judgeBranch_175 hC hR o0 a0 x1 x2 x3 x4 x5 x6 _ _ _ _ hi0 hw (lv_sub hl [1, 2, 3, 4, 5, 6, 7] rfl) h
  · have h := i_yes c270 h
    refine lv_iload hx hb dX0_judgeBranch_124 (lv_at hl 7 rfl) ?_
    refine lv_if_eq (tgt := 175) hx hb dX0_judgeBranch_126 (by decide) (fun c271 => ?_) (fun c271 => ?_)
    · have h := i_yes c271 h
      exact w_X0_judgeBranch_175 hC hR o0 a0 x1 x2 x3 x4 x5 x6 _ _ _ _ hi0 hw (lv_sub hl [1, 2, 3, 4, 5, 6, 7] rfl) h
    · have h := i_no c271 h
      refine lv_iload hx hb dX0_judgeBranch_129 (lv_at hl 0 rfl) ?_
      refine lv_if_eq (tgt := 175) hx hb dX0_judgeBranch_131 (by decide) (fun c272 => ?_) (fun c272 => ?_)
      · have h := i_yes c272 h
        exact w_X0_judgeBranch_175 hC hR o0 a0 x1 x2 x3 x4 x5 x6 _ _ _ _ hi0 hw (lv_sub hl [1, 2, 3, 4, 5, 6, 7] rfl) h
      · have h := i_no c272 h
        refine lv_aload_n hx hb dX0_judgeBranch_134 rfl (lv_at hl 1 rfl) ?_
        obtain ⟨o273, ho276, h⟩ := rq_i h
        refine r_getR hC hw kc_0 hi0 0 rfl lk_317 dX0_judgeBranch_135 rfl ho276 (fun a274 hi275 => ?_)
        refine lv_iload_n hx hb dX0_judgeBranch_138 rfl (lv_at hl 2 rfl) ?_
        obtain ⟨r278, D279, hq277, h⟩ := cq_i h
        refine r_cV (st' := [.int r278]) [.int x1] [] hC hw kc_3 hi275 (k_X4_isWide _ hi275 hq277) mk_X4_isWide lk_673 ⟨Nat.le_trans (by decide) hR.1, Nat.le_trans (by decide) hR.2⟩ ⟨Nat.zero_le _, Nat.zero_le _⟩ rfl hl.1 rfl rfl (Nat.le_of_ble_eq_true rfl) dX0_judgeBranch_139 (fun hP H locs hw => ?_)
        refine lv_if_eq (tgt := 175) hx hb dX0_judgeBranch_142 (by decide) (fun c280 => ?_) (fun c280 => ?_)
        · have h := i_yes c280 h
          exact w_X0_judgeBranch_175 hC hR o0 a0 x1 x2 x3 x4 x5 x6 _ _ _ _ hi0 hw (lv_sub hl [1, 2, 3, 4, 5, 6, 7] rfl) h
        · have h := i_no c280 h
          refine lv_aload_n hx hb dX0_judgeBranch_145 rfl (lv_at hl 1 rfl) ?_
          refine lv_iload_n hx hb dX0_judgeBranch_146 rfl (lv_at hl 2 rfl) ?_
          obtain ⟨_, D282, hq281, h⟩ := cq_i h
          refine r_cV (st' := []) [.int x1] [] hC hw kc_0 hi0 (k_X0_goBothWays _ hi0 hq281) mk_X0_goBothWays lk_792 ⟨Nat.le_trans (by decide) hR.1, Nat.le_trans (by decide) hR.2⟩ ⟨Nat.zero_le _, Nat.zero_le _⟩ rfl hl.1 rfl rfl (Nat.le_of_ble_eq_true rfl) dX0_judgeBranch_147 (fun hP H locs hw => ?_)
          refine lv_aload_n hx hb dX0_judgeBranch_150 rfl (lv_at hl 1 rfl) ?_
          refine lv_aload_n hx hb dX0_judgeBranch_151 rfl (lv_at hl 1 rfl) ?_
          obtain ⟨o283, ho286, h⟩ := rq_i h
          refine r_getR hC hw kc_0 hi0 4 rfl lk_321 dX0_judgeBranch_152 rfl ho286 (fun a284 hi285 => ?_)
          obtain ⟨o287, ho290, h⟩ := rq_i h
          refine r_getR hC hw kc_4 hi285 1 rfl lk_266 dX0_judgeBranch_155 rfl ho290 (fun a288 hi289 => ?_)
          refine lv_iload_n hx hb dX0_judgeBranch_158 rfl (lv_at hl 4 rfl) ?_
          obtain ⟨hn291, h⟩ := ix_i h
          refine r_iald hC hw hi289 hn291 dX0_judgeBranch_159 ?_
          refine lv_iload_n hx hb dX0_judgeBranch_160 rfl (lv_at hl 3 rfl) ?_
          refine lv_iconst (v := 1) hx hb dX0_judgeBranch_161 (by decide) ?_
          refine lv_icmp_ne (tgt := 169) hx hb dX0_judgeBranch_162 (by decide) (fun c292 => ?_) (fun c292 => ?_)
          · have h := i_no c292 h
            refine lv_iconst (v := 0) hx hb dX0_judgeBranch_169 (by decide) ?_
            exact w_X0_judgeBranch_170 hC hR o0 a0 (gI D282 o287 x3.toNatClampNeg) (0 : Int32) _ _ _ _ hi0 hw (lv_sub hl [] rfl) h
          · have h := i_yes c292 h
            refine lv_iconst (v := 1) hx hb dX0_judgeBranch_165 (by decide) ?_
            refine lv_goto (tgt := 170) hx hb dX0_judgeBranch_166 (by decide) ?_
            exact w_X0_judgeBranch_170 hC hR o0 a0 (gI D282 o287 x3.toNatClampNeg) (1 : Int32) _ _ _ _ hi0 hw (lv_sub hl [] rfl) h
set_option maxHeartbeats 4000000 in
set_option maxRecDepth 100000 in
theorem w_X0_judgeBranch_108 {r : Int32} {D' : dt} (hC : Cx RX0 cX0_judgeBranch 8 (some .int) p s m args meth c) (hR : 3 ≤ R.frames ∧ 73 ≤ R.locals) : ∀ (o0 a0 : Nat) (x1 : Int32) (x2 : Int32) (x3 : Int32) (x4 : Int32) (x5 : Int32) (x6 : Int32) (D : dt) (H : Heap) (locs : List Loc) (ls : Array Slot), Is S ad o0 a0 0 → Wd G cA S D ad A s H locs → lv_has ls 8 [(0, .ref a0), (1, .int x1), (2, .int x2), (3, .int x3), (4, .int x4), (5, .int x5), (6, .int x6)] → f_X0_judgeBranch_108 S o0 x1 x2 x3 x4 x5 x6 D = some (r, D') → W p l e R s m args below meth c H locs 0 0 (MQ below (Qn (some (.int r)) True (wpost G cA S D' ad A) A) args s 0 0 A) (F0 m 108 ls []) := by
  obtain ⟨hx, hb, -⟩ := id hC
  intro o0 a0 x1 x2 x3 x4 x5 x6 D H locs ls hi0 hw hl h
  unfold f_X0_judgeBranch_108 at h
  refine lv_iconst (v := 0) hx hb dX0_judgeBranch_108 (by decide) ?_
  exact w_X0_judgeBranch_109 hC hR o0 a0 x1 x2 x3 x4 x5 x6 (0 : Int32) _ _ _ _ hi0 hw (lv_sub hl [0, 1, 2, 3, 4, 5, 6] rfl) h
set_option maxHeartbeats 4000000 in
set_option maxRecDepth 100000 in
theorem w_X0_judgeBranch_85 {r : Int32} {D' : dt} (hC : Cx RX0 cX0_judgeBranch 8 (some .int) p s m args meth c) (hR : 3 ≤ R.frames ∧ 73 ≤ R.locals) : ∀ (o0 a0 : Nat) (x1 : Int32) (x2 : Int32) (x3 : Int32) (x4 : Int32) (x5 : Int32) (xs0 : Int32) (D : dt) (H : Heap) (locs : List Loc) (ls : Array Slot), Is S ad o0 a0 0 → Wd G cA S D ad A s H locs → lv_has ls 8 [(0, .ref a0), (1, .int x1), (2, .int x2), (3, .int x3), (4, .int x4), (5, .int x5)] → f_X0_judgeBranch_85 S o0 x1 x2 x3 x4 x5 xs0 D = some (r, D') → W p l e R s m args below meth c H locs 0 0 (MQ below (Qn (some (.int r)) True (wpost G cA S D' ad A) A) args s 0 0 A) (F0 m 85 ls [.int xs0]) := by
  obtain ⟨hx, hb, -⟩ := id hC
  intro o0 a0 x1 x2 x3 x4 x5 xs0 D H locs ls hi0 hw hl h
  unfold f_X0_judgeBranch_85 at h
  refine lv_istore (lv' := [(6, .int xs0), (0, .ref a0), (1, .int x1), (2, .int x2), (3, .int x3), (4, .int x4), (5, .int x5)]) hx hb dX0_judgeBranch_85 hl (by decide) rfl (fun ls hl => ?_)
  refine lv_iload hx hb dX0_judgeBranch_87 (lv_at hl 6 rfl) ?_
  refine lv_if_ne (tgt := 108) hx hb dX0_judgeBranch_89 (by decide) (fun c293 => ?_) (fun c293 => ?_)
  · have h := i_no c293 h
    exact w_X0_judgeBranch_108 hC hR o0 a0 x1 x2 x3 x4 x5 xs0 _ _ _ _ hi0 hw (lv_sub hl [1, 2, 3, 4, 5, 6, 0] rfl) h
  · have h := i_yes c293 h
    refine lv_aload_n hx hb dX0_judgeBranch_92 rfl (lv_at hl 1 rfl) ?_
    obtain ⟨o294, ho297, h⟩ := rq_i h
    refine r_getR hC hw kc_0 hi0 0 rfl lk_317 dX0_judgeBranch_93 rfl ho297 (fun a295 hi296 => ?_)
    obtain ⟨o298, ho301, h⟩ := rq_i h
    refine r_getR hC hw kc_3 hi296 4 rfl lk_155 dX0_judgeBranch_96 rfl ho301 (fun a299 hi300 => ?_)
    refine lv_iload_n hx hb dX0_judgeBranch_99 rfl (lv_at hl 2 rfl) ?_
    obtain ⟨hn302, h⟩ := ix_i h
    refine r_iald hC hw hi300 hn302 dX0_judgeBranch_100 ?_
    refine lv_if_ne (tgt := 108) hx hb dX0_judgeBranch_101 (by decide) (fun c303 => ?_) (fun c303 => ?_)
    · have h := i_no c303 h
      exact w_X0_judgeBranch_108 hC hR o0 a0 x1 x2 x3 x4 x5 xs0 _ _ _ _ hi0 hw (lv_sub hl [1, 2, 3, 4, 5, 6, 0] rfl) h
    · have h := i_yes c303 h
      refine lv_iconst (v := 1) hx hb dX0_judgeBranch_104 (by decide) ?_
      refine lv_goto (tgt := 109) hx hb dX0_judgeBranch_105 (by decide) ?_
      exact w_X0_judgeBranch_109 hC hR o0 a0 x1 x2 x3 x4 x5 xs0 (1 : Int32) _ _ _ _ hi0 hw (lv_sub hl [1, 2, 3, 4, 5, 6, 0] rfl) h
set_option maxHeartbeats 4000000 in
set_option maxRecDepth 100000 in
theorem w_X0_judgeBranch_80 {r : Int32} {D' : dt} (hC : Cx RX0 cX0_judgeBranch 8 (some .int) p s m args meth c) (hR : 3 ≤ R.frames ∧ 73 ≤ R.locals) : ∀ (o0 a0 : Nat) (x1 : Int32) (x2 : Int32) (x3 : Int32) (x4 : Int32) (x5 : Int32) (D : dt) (H : Heap) (locs : List Loc) (ls : Array Slot), Is S ad o0 a0 0 → Wd G cA S D ad A s H locs → lv_has ls 8 [(0, .ref a0), (1, .int x1), (2, .int x2), (3, .int x3), (4, .int x4), (5, .int x5)] → f_X0_judgeBranch_80 S o0 x1 x2 x3 x4 x5 D = some (r, D') → W p l e R s m args below meth c H locs 0 0 (MQ below (Qn (some (.int r)) True (wpost G cA S D' ad A) A) args s 0 0 A) (F0 m 80 ls []) := by
  obtain ⟨hx, hb, -⟩ := id hC
  intro o0 a0 x1 x2 x3 x4 x5 D H locs ls hi0 hw hl h
  unfold f_X0_judgeBranch_80 at h
  refine lv_iconst (v := 1) hx hb dX0_judgeBranch_80 (by decide) ?_
  refine lv_goto (tgt := 85) hx hb dX0_judgeBranch_81 (by decide) ?_
  exact w_X0_judgeBranch_85 hC hR o0 a0 x1 x2 x3 x4 x5 (1 : Int32) _ _ _ _ hi0 hw (lv_sub hl [0, 1, 2, 3, 4, 5] rfl) h
set_option maxHeartbeats 4000000 in
set_option maxRecDepth 100000 in
theorem w_X0_judgeBranch_70 {r : Int32} {D' : dt} (hC : Cx RX0 cX0_judgeBranch 8 (some .int) p s m args meth c) (hR : 3 ≤ R.frames ∧ 73 ≤ R.locals) : ∀ (o0 a0 : Nat) (x1 : Int32) (x2 : Int32) (x3 : Int32) (x4 : Int32) (x5 : Int32) (D : dt) (H : Heap) (locs : List Loc) (ls : Array Slot), Is S ad o0 a0 0 → Wd G cA S D ad A s H locs → lv_has ls 8 [(0, .ref a0), (1, .int x1), (2, .int x2), (3, .int x3), (4, .int x4), (5, .int x5)] → f_X0_judgeBranch_70 S o0 x1 x2 x3 x4 x5 D = some (r, D') → W p l e R s m args below meth c H locs 0 0 (MQ below (Qn (some (.int r)) True (wpost G cA S D' ad A) A) args s 0 0 A) (F0 m 70 ls []) := by
  obtain ⟨hx, hb, -⟩ := id hC
  intro o0 a0 x1 x2 x3 x4 x5 D H locs ls hi0 hw hl h
  unfold f_X0_judgeBranch_70 at h
  refine lv_iload_n hx hb dX0_judgeBranch_70 rfl (lv_at hl 2 rfl) ?_
  refine lv_iconst (v := 1) hx hb dX0_judgeBranch_71 (by decide) ?_
  refine lv_icmp_eq (tgt := 80) hx hb dX0_judgeBranch_72 (by decide) (fun c304 => ?_) (fun c304 => ?_)
  · have h := i_yes c304 h
    exact w_X0_judgeBranch_80 hC hR o0 a0 x1 x2 x3 x4 x5 _ _ _ _ hi0 hw (lv_sub hl [0, 1, 2, 3, 4, 5] rfl) h
  · have h := i_no c304 h
    refine lv_iload_n hx hb dX0_judgeBranch_75 rfl (lv_at hl 2 rfl) ?_
    refine lv_iconst (v := 5) hx hb dX0_judgeBranch_76 (by decide) ?_
    refine lv_icmp_ne (tgt := 84) hx hb dX0_judgeBranch_77 (by decide) (fun c305 => ?_) (fun c305 => ?_)
    · have h := i_no c305 h
      refine lv_iconst (v := 0) hx hb dX0_judgeBranch_84 (by decide) ?_
      exact w_X0_judgeBranch_85 hC hR o0 a0 x1 x2 x3 x4 x5 (0 : Int32) _ _ _ _ hi0 hw (lv_sub hl [0, 1, 2, 3, 4, 5] rfl) h
    · have h := i_yes c305 h
      exact w_X0_judgeBranch_80 hC hR o0 a0 x1 x2 x3 x4 x5 _ _ _ _ hi0 hw (lv_sub hl [0, 1, 2, 3, 4, 5] rfl) h
set_option maxHeartbeats 4000000 in
set_option maxRecDepth 100000 in
theorem w_X0_judgeBranch_0 {r : Int32} {D' : dt} (hC : Cx RX0 cX0_judgeBranch 8 (some .int) p s m args meth c) (hR : 3 ≤ R.frames ∧ 73 ≤ R.locals) : ∀ (o0 a0 : Nat) (x1 : Int32) (D : dt) (H : Heap) (locs : List Loc) (ls : Array Slot), Is S ad o0 a0 0 → Wd G cA S D ad A s H locs → lv_has ls 8 [(0, .ref a0), (1, .int x1)] → f_X0_judgeBranch S o0 x1 D = some (r, D') → W p l e R s m args below meth c H locs 0 0 (MQ below (Qn (some (.int r)) True (wpost G cA S D' ad A) A) args s 0 0 A) (F0 m 0 ls []) := by
  obtain ⟨hx, hb, -⟩ := id hC
  intro o0 a0 x1 D H locs ls hi0 hw hl h
  unfold f_X0_judgeBranch at h
  refine lv_aload_n hx hb dX0_judgeBranch_0 rfl (lv_at hl 0 rfl) ?_
  obtain ⟨o306, ho309, h⟩ := rq_i h
  refine r_getR hC hw kc_0 hi0 0 rfl lk_317 dX0_judgeBranch_1 rfl ho309 (fun a307 hi308 => ?_)
  refine lv_iload_n hx hb dX0_judgeBranch_4 rfl (lv_at hl 1 rfl) ?_
  obtain ⟨r311, D312, hq310, h⟩ := cq_i h
  refine r_cV (st' := [.int r311]) [.int x1] [] hC hw kc_3 hi308 (k_X4_code _ hi308 hq310) mk_X4_code lk_671 ⟨Nat.le_trans (by decide) hR.1, Nat.le_trans (by decide) hR.2⟩ ⟨Nat.zero_le _, Nat.zero_le _⟩ rfl hl.1 rfl rfl (Nat.le_of_ble_eq_true rfl) dX0_judgeBranch_5 (fun hP H locs hw => ?_)
  refine lv_istore_n (lv' := [(2, .int r311), (0, .ref a0), (1, .int x1)]) hx hb dX0_judgeBranch_8 rfl hl (by decide) rfl (fun ls hl => ?_)
  refine lv_aload_n hx hb dX0_judgeBranch_9 rfl (lv_at hl 1 rfl) ?_
  obtain ⟨o313, ho316, h⟩ := rq_i h
  refine r_getR hC hw kc_0 hi0 0 rfl lk_317 dX0_judgeBranch_10 rfl ho316 (fun a314 hi315 => ?_)
  obtain ⟨o317, ho320, h⟩ := rq_i h
  refine r_getR hC hw kc_3 hi315 1 rfl lk_146 dX0_judgeBranch_13 rfl ho320 (fun a318 hi319 => ?_)
  refine lv_iload_n hx hb dX0_judgeBranch_16 rfl (lv_at hl 2 rfl) ?_
  obtain ⟨hn321, h⟩ := ix_i h
  refine r_iald hC hw hi319 hn321 dX0_judgeBranch_17 ?_
  refine lv_topi (fun y322 ey322 => ?_)
  have h := nm_i h y322 ey322
  refine lv_istore_n (lv' := [(3, .int y322), (2, .int r311), (0, .ref a0), (1, .int x1)]) hx hb dX0_judgeBranch_18 rfl hl (by decide) rfl (fun ls hl => ?_)
  refine lv_aload_n hx hb dX0_judgeBranch_19 rfl (lv_at hl 2 rfl) ?_
  obtain ⟨o323, ho326, h⟩ := rq_i h
  refine r_getR hC hw kc_0 hi0 0 rfl lk_317 dX0_judgeBranch_20 rfl ho326 (fun a324 hi325 => ?_)
  obtain ⟨o327, ho330, h⟩ := rq_i h
  refine r_getR hC hw kc_3 hi325 2 rfl lk_149 dX0_judgeBranch_23 rfl ho330 (fun a328 hi329 => ?_)
  refine lv_iload_n hx hb dX0_judgeBranch_26 rfl (lv_at hl 3 rfl) ?_
  obtain ⟨hn331, h⟩ := ix_i h
  refine r_iald hC hw hi329 hn331 dX0_judgeBranch_27 ?_
  refine lv_topi (fun y332 ey332 => ?_)
  have h := nm_i h y332 ey332
  refine lv_istore (lv' := [(4, .int y332), (3, .int y322), (2, .int r311), (0, .ref a0), (1, .int x1)]) hx hb dX0_judgeBranch_28 hl (by decide) rfl (fun ls hl => ?_)
  refine lv_aload_n hx hb dX0_judgeBranch_30 rfl (lv_at hl 3 rfl) ?_
  obtain ⟨o333, ho336, h⟩ := rq_i h
  refine r_getR hC hw kc_0 hi0 0 rfl lk_317 dX0_judgeBranch_31 rfl ho336 (fun a334 hi335 => ?_)
  refine lv_iload_n hx hb dX0_judgeBranch_34 rfl (lv_at hl 4 rfl) ?_
  obtain ⟨r338, D339, hq337, h⟩ := cq_i h
  refine r_cV (st' := [.int r338]) [.int x1] [] hC hw kc_3 hi335 (k_X4_byRegister _ hi335 hq337) mk_X4_byRegister lk_672 ⟨Nat.le_trans (by decide) hR.1, Nat.le_trans (by decide) hR.2⟩ ⟨Nat.zero_le _, Nat.zero_le _⟩ rfl hl.1 rfl rfl (Nat.le_of_ble_eq_true rfl) dX0_judgeBranch_35 (fun hP H locs hw => ?_)
  refine lv_istore (lv' := [(5, .int r338), (4, .int y332), (3, .int y322), (2, .int r311), (0, .ref a0), (1, .int x1)]) hx hb dX0_judgeBranch_38 hl (by decide) rfl (fun ls hl => ?_)
  refine lv_aload_n hx hb dX0_judgeBranch_40 rfl (lv_at hl 4 rfl) ?_
  obtain ⟨o340, ho343, h⟩ := rq_i h
  refine r_getR hC hw kc_0 hi0 4 rfl lk_321 dX0_judgeBranch_41 rfl ho343 (fun a341 hi342 => ?_)
  refine lv_iload_n hx hb dX0_judgeBranch_44 rfl (lv_at hl 2 rfl) ?_
  obtain ⟨r345, D346, hq344, h⟩ := cq_i h
  refine r_cV (st' := [.int r345]) [.int y322] [] hC hw kc_4 hi342 (k_X5_isNone _ hi342 hq344) mk_X5_isNone lk_579 ⟨Nat.le_trans (by decide) hR.1, Nat.le_trans (by decide) hR.2⟩ ⟨Nat.zero_le _, Nat.zero_le _⟩ rfl hl.1 rfl rfl (Nat.le_of_ble_eq_true rfl) dX0_judgeBranch_45 (fun hP H locs hw => ?_)
  refine lv_if_ne (tgt := 68) hx hb dX0_judgeBranch_48 (by decide) (fun c347 => ?_) (fun c347 => ?_)
  · have h := i_no c347 h
    refine lv_iconst (v := 2) hx hb dX0_judgeBranch_68 (by decide) ?_
    cases h
    exact r_iret hC hw dX0_judgeBranch_69
  · have h := i_yes c347 h
    refine lv_iload hx hb dX0_judgeBranch_51 (lv_at hl 0 rfl) ?_
    refine lv_if_eq (tgt := 70) hx hb dX0_judgeBranch_53 (by decide) (fun c348 => ?_) (fun c348 => ?_)
    · have h := i_yes c348 h
      exact w_X0_judgeBranch_70 hC hR o0 a0 x1 r311 y322 y332 r338 _ _ _ _ hi0 hw (lv_sub hl [4, 5, 3, 2, 1, 0] rfl) h
    · have h := i_no c348 h
      refine lv_aload_n hx hb dX0_judgeBranch_56 rfl (lv_at hl 4 rfl) ?_
      obtain ⟨o349, ho352, h⟩ := rq_i h
      refine r_getR hC hw kc_0 hi0 4 rfl lk_321 dX0_judgeBranch_57 rfl ho352 (fun a350 hi351 => ?_)
      refine lv_iload hx hb dX0_judgeBranch_60 (lv_at hl 1 rfl) ?_
      obtain ⟨r354, D355, hq353, h⟩ := cq_i h
      refine r_cV (st' := [.int r354]) [.int y332] [] hC hw kc_4 hi351 (k_X5_isNone _ hi351 hq353) mk_X5_isNone lk_579 ⟨Nat.le_trans (by decide) hR.1, Nat.le_trans (by decide) hR.2⟩ ⟨Nat.zero_le _, Nat.zero_le _⟩ rfl hl.1 rfl rfl (Nat.le_of_ble_eq_true rfl) dX0_judgeBranch_62 (fun hP H locs hw => ?_)
      refine lv_if_eq (tgt := 70) hx hb dX0_judgeBranch_65 (by decide) (fun c356 => ?_) (fun c356 => ?_)
      · have h := i_yes c356 h
        exact w_X0_judgeBranch_70 hC hR o0 a0 x1 r311 y322 y332 r338 _ _ _ _ hi0 hw (lv_sub hl [4, 5, 3, 2, 1, 0] rfl) h
      · have h := i_no c356 h
        refine lv_iconst (v := 2) hx hb dX0_judgeBranch_68 (by decide) ?_
        cases h
        exact r_iret hC hw dX0_judgeBranch_69
set_option maxHeartbeats 4000000 in
set_option maxRecDepth 100000 in
theorem k_X0_judgeBranch {l : Launch} {G : va_G} {cA : Nat → ClassId} {S : sh} {D D' : dt} {ad : Nat → Nat} (sz : Nat) {o0 a0 : Nat} {x1 : Int32} {r : Int32} (hi0 : Is S ad o0 a0 0) (h : f_X0_judgeBranch S o0 x1 D = some (r, D')) : Co l yX0_judgeBranch (Cond.code yX0_judgeBranch cX0_judgeBranch 8 (some .int) :: tb0) 3 73 [.ref a0, .int x1] G cA S D ad sz (some (.int r)) True D' := by
  refine Met.ofW (cc := cX0_judgeBranch) (maxL := 8) (ret := (some .int)) (by decide) rfl ?_
  intro p e s m args below meth c s₁ B hml hv
  obtain ⟨rfl, hsz, hP, hK, hD0, hT, hX⟩ := hv
  subst hsz
  have hts := atoms_spec (ws := Cond.code yX0_judgeBranch cX0_judgeBranch 8 (some .int) :: tb0) B.pre
  have hC : Cx RX0 cX0_judgeBranch 8 (some .int) p s m _ meth c := ⟨B.exec, B.bytes, hml, findClass_of_methodNamed B.named, fun w q => hts w (List.mem_cons_of_mem _ q), B.returns, B.notSynchronized⟩
  have hw := Wd.entry hP hK hD0 hT hX
  have hl := lv_entry ([.ref a0, .int x1]) (n := 8) (Nat.le_of_ble_eq_true rfl)
  rw [lg_entry_eq]
  exact w_X0_judgeBranch_0 hC ⟨Nat.le_refl _, Nat.le_refl _⟩ o0 a0 x1 D _ _ _ hi0 hw hl h
set_option maxHeartbeats 4000000 in
set_option maxRecDepth 100000 in
theorem w_X0_judgeJump_0 {r : Int32} {D' : dt} (hC : Cx RX0 cX0_judgeJump 3 (some .int) p s m args meth c) (hR : 4 ≤ R.frames ∧ 100 ≤ R.locals) : ∀ (o0 a0 : Nat) (x1 : Int32) (D : dt) (H : Heap) (locs : List Loc) (ls : Array Slot), Is S ad o0 a0 0 → Wd G cA S D ad A s H locs → lv_has ls 3 [(0, .ref a0), (1, .int x1)] → f_X0_judgeJump S o0 x1 D = some (r, D') → W p l e R s m args below meth c H locs 0 0 (MQ below (Qn (some (.int r)) True (wpost G cA S D' ad A) A) args s 0 0 A) (F0 m 0 ls []) := by
  obtain ⟨hx, hb, -⟩ := id hC
  intro o0 a0 x1 D H locs ls hi0 hw hl h
  unfold f_X0_judgeJump at h
  refine lv_aload_n hx hb dX0_judgeJump_0 rfl (lv_at hl 0 rfl) ?_
  obtain ⟨o30, ho33, h⟩ := rq_i h
  refine r_getR hC hw kc_0 hi0 0 rfl lk_317 dX0_judgeJump_1 rfl ho33 (fun a31 hi32 => ?_)
  refine lv_iload_n hx hb dX0_judgeJump_4 rfl (lv_at hl 1 rfl) ?_
  obtain ⟨r35, D36, hq34, h⟩ := cq_i h
  refine r_cV (st' := [.int r35]) [.int x1] [] hC hw kc_3 hi32 (k_X4_code _ hi32 hq34) mk_X4_code lk_671 ⟨Nat.le_trans (by decide) hR.1, Nat.le_trans (by decide) hR.2⟩ ⟨Nat.zero_le _, Nat.zero_le _⟩ rfl hl.1 rfl rfl (Nat.le_of_ble_eq_true rfl) dX0_judgeJump_5 (fun hP H locs hw => ?_)
  refine lv_istore_n (lv' := [(2, .int r35), (0, .ref a0), (1, .int x1)]) hx hb dX0_judgeJump_8 rfl hl (by decide) rfl (fun ls hl => ?_)
  refine lv_iload_n hx hb dX0_judgeJump_9 rfl (lv_at hl 0 rfl) ?_
  refine lv_bipush (v := 9) hx hb dX0_judgeJump_10 (by decide) ?_
  refine lv_icmp_ne (tgt := 37) hx hb dX0_judgeJump_12 (by decide) (fun c37 => ?_) (fun c37 => ?_)
  · have h := i_no c37 h
    refine lv_iload_n hx hb dX0_judgeJump_37 rfl (lv_at hl 0 rfl) ?_
    refine lv_if_ne (tgt := 61) hx hb dX0_judgeJump_38 (by decide) (fun c38 => ?_) (fun c38 => ?_)
    · have h := i_no c38 h
      refine lv_aload_n hx hb dX0_judgeJump_61 rfl (lv_at hl 1 rfl) ?_
      refine lv_iload_n hx hb dX0_judgeJump_62 rfl (lv_at hl 2 rfl) ?_
      obtain ⟨r40, D41, hq39, h⟩ := cq_i h
      refine r_cV (st' := [.int r40]) [.int x1] [] hC hw kc_0 hi0 (k_X0_judgeBranch _ hi0 hq39) mk_X0_judgeBranch lk_788 ⟨Nat.le_trans (by decide) hR.1, Nat.le_trans (by decide) hR.2⟩ ⟨Nat.zero_le _, Nat.zero_le _⟩ rfl hl.1 rfl rfl (Nat.le_of_ble_eq_true rfl) dX0_judgeJump_63 (fun hP H locs hw => ?_)
      cases h
      exact r_iret hC hw dX0_judgeJump_66
    · have h := i_yes c38 h
      refine lv_aload_n hx hb dX0_judgeJump_41 rfl (lv_at hl 1 rfl) ?_
      refine lv_iload_n hx hb dX0_judgeJump_42 rfl (lv_at hl 2 rfl) ?_
      refine lv_i2l (v := x1.toInt64) hx hb dX0_judgeJump_43 rfl ?_
      refine lv_lconst (v := 1) hx hb dX0_judgeJump_44 (by decide) ?_
      refine lv_ladd hx hb dX0_judgeJump_45 ?_
      refine lv_aload_n hx hb dX0_judgeJump_46 rfl (lv_at hl 1 rfl) ?_
      obtain ⟨o42, ho45, h⟩ := rq_i h
      refine r_getR hC hw kc_0 hi0 0 rfl lk_317 dX0_judgeJump_47 rfl ho45 (fun a43 hi44 => ?_)
      refine lv_iload_n hx hb dX0_judgeJump_50 rfl (lv_at hl 2 rfl) ?_
      obtain ⟨r47, D48, hq46, h⟩ := cq_i h
      refine r_cV (st' := [.int r47, .long (x1.toInt64 + (1 : Int64)), .ref a0]) [.int x1] [.long (x1.toInt64 + (1 : Int64)), .ref a0] hC hw kc_3 hi44 (k_X4_distance _ hi44 hq46) mk_X4_distance lk_784 ⟨Nat.le_trans (by decide) hR.1, Nat.le_trans (by decide) hR.2⟩ ⟨Nat.zero_le _, Nat.zero_le _⟩ rfl hl.1 rfl rfl (Nat.le_of_ble_eq_true rfl) dX0_judgeJump_51 (fun hP H locs hw => ?_)
      refine lv_i2l (v := r47.toInt64) hx hb dX0_judgeJump_54 rfl ?_
      refine lv_ladd hx hb dX0_judgeJump_55 ?_
      refine r_pL hC hw kc_0 hi0 9 rfl lk_327 rfl rfl rfl dX0_judgeJump_56 (fun D49 eD49 H locs hw => ?_)
      have h := nm_i h D49 eD49
      refine lv_iconst (v := 0) hx hb dX0_judgeJump_59 (by decide) ?_
      cases h
      exact r_iret hC hw dX0_judgeJump_60
  · have h := i_yes c37 h
    refine lv_aload_n hx hb dX0_judgeJump_15 rfl (lv_at hl 1 rfl) ?_
    refine lv_iconst (v := 0) hx hb dX0_judgeJump_16 (by decide) ?_
    refine r_pI hC hw kc_0 hi0 8 rfl lk_326 rfl rfl rfl dX0_judgeJump_17 (fun D50 eD50 H locs hw => ?_)
    have h := nm_i h D50 eD50
    refine lv_aload_n hx hb dX0_judgeJump_20 rfl (lv_at hl 1 rfl) ?_
    obtain ⟨o51, ho54, h⟩ := rq_i h
    refine r_getR hC hw kc_0 hi0 4 rfl lk_321 dX0_judgeJump_21 rfl ho54 (fun a52 hi53 => ?_)
    refine lv_iconst (v := 0) hx hb dX0_judgeJump_24 (by decide) ?_
    obtain ⟨r56, D57, hq55, h⟩ := cq_i h
    refine r_cV (st' := [.int r56]) [.int (0 : Int32)] [] hC hw kc_4 hi53 (k_X5_isNumber _ hi53 hq55) mk_X5_isNumber lk_639 ⟨Nat.le_trans (by decide) hR.1, Nat.le_trans (by decide) hR.2⟩ ⟨Nat.zero_le _, Nat.zero_le _⟩ rfl hl.1 rfl rfl (Nat.le_of_ble_eq_true rfl) dX0_judgeJump_25 (fun hP H locs hw => ?_)
    refine lv_if_eq (tgt := 35) hx hb dX0_judgeJump_28 (by decide) (fun c58 => ?_) (fun c58 => ?_)
    · have h := i_yes c58 h
      refine lv_iconst (v := 5) hx hb dX0_judgeJump_35 (by decide) ?_
      cases h
      exact r_iret hC hw dX0_judgeJump_36
    · have h := i_no c58 h
      refine lv_iconst (v := 0) hx hb dX0_judgeJump_31 (by decide) ?_
      refine lv_goto (tgt := 36) hx hb dX0_judgeJump_32 (by decide) ?_
      cases h
      exact r_iret hC hw dX0_judgeJump_36
set_option maxHeartbeats 4000000 in
set_option maxRecDepth 100000 in
theorem k_X0_judgeJump {l : Launch} {G : va_G} {cA : Nat → ClassId} {S : sh} {D D' : dt} {ad : Nat → Nat} (sz : Nat) {o0 a0 : Nat} {x1 : Int32} {r : Int32} (hi0 : Is S ad o0 a0 0) (h : f_X0_judgeJump S o0 x1 D = some (r, D')) : Co l yX0_judgeJump (Cond.code yX0_judgeJump cX0_judgeJump 3 (some .int) :: tb0) 4 100 [.ref a0, .int x1] G cA S D ad sz (some (.int r)) True D' := by
  refine Met.ofW (cc := cX0_judgeJump) (maxL := 3) (ret := (some .int)) (by decide) rfl ?_
  intro p e s m args below meth c s₁ B hml hv
  obtain ⟨rfl, hsz, hP, hK, hD0, hT, hX⟩ := hv
  subst hsz
  have hts := atoms_spec (ws := Cond.code yX0_judgeJump cX0_judgeJump 3 (some .int) :: tb0) B.pre
  have hC : Cx RX0 cX0_judgeJump 3 (some .int) p s m _ meth c := ⟨B.exec, B.bytes, hml, findClass_of_methodNamed B.named, fun w q => hts w (List.mem_cons_of_mem _ q), B.returns, B.notSynchronized⟩
  have hw := Wd.entry hP hK hD0 hT hX
  have hl := lv_entry ([.ref a0, .int x1]) (n := 3) (Nat.le_of_ble_eq_true rfl)
  rw [lg_entry_eq]
  exact w_X0_judgeJump_0 hC ⟨Nat.le_refl _, Nat.le_refl _⟩ o0 a0 x1 D _ _ _ hi0 hw hl h
set_option maxHeartbeats 4000000 in
set_option maxRecDepth 100000 in
theorem w_X0_judgeSlot_147 {r : Int32} {D' : dt} (hC : Cx RX0 cX0_judgeSlot 3 (some .int) p s m args meth c) (hR : 5 ≤ R.frames ∧ 142 ≤ R.locals) : ∀ (o0 a0 : Nat) (x1 : Int32) (D : dt) (H : Heap) (locs : List Loc) (ls : Array Slot), Is S ad o0 a0 0 → Wd G cA S D ad A s H locs → lv_has ls 3 [(0, .ref a0), (1, .int x1)] → f_X0_judgeSlot_147 S o0 x1 D = some (r, D') → W p l e R s m args below meth c H locs 0 0 (MQ below (Qn (some (.int r)) True (wpost G cA S D' ad A) A) args s 0 0 A) (F0 m 147 ls []) := by
  obtain ⟨hx, hb, -⟩ := id hC
  intro o0 a0 x1 D H locs ls hi0 hw hl h
  unfold f_X0_judgeSlot_147 at h
  refine lv_aload_n hx hb dX0_judgeSlot_147 rfl (lv_at hl 0 rfl) ?_
  obtain ⟨o84, ho87, h⟩ := rq_i h
  refine r_getR hC hw kc_0 hi0 0 rfl lk_317 dX0_judgeSlot_148 rfl ho87 (fun a85 hi86 => ?_)
  refine lv_iload_n hx hb dX0_judgeSlot_151 rfl (lv_at hl 1 rfl) ?_
  obtain ⟨r89, D90, hq88, h⟩ := cq_i h
  refine r_cV (st' := [.int r89]) [.int x1] [] hC hw kc_3 hi86 (k_X4_code _ hi86 hq88) mk_X4_code lk_671 ⟨Nat.le_trans (by decide) hR.1, Nat.le_trans (by decide) hR.2⟩ ⟨Nat.zero_le _, Nat.zero_le _⟩ rfl hl.1 rfl rfl (Nat.le_of_ble_eq_true rfl) dX0_judgeSlot_152 (fun hP H locs hw => ?_)
  refine lv_bipush (v := 8) hx hb dX0_judgeSlot_155 (by decide) ?_
  refine lv_icmp_ne (tgt := 177) hx hb dX0_judgeSlot_157 (by decide) (fun c91 => ?_) (fun c91 => ?_)
  · have h := i_no c91 h
    refine lv_aload_n hx hb dX0_judgeSlot_177 rfl (lv_at hl 0 rfl) ?_
    refine lv_iload_n hx hb dX0_judgeSlot_178 rfl (lv_at hl 1 rfl) ?_
    obtain ⟨r93, D94, hq92, h⟩ := cq_i h
    refine r_cV (st' := [.int r93]) [.int x1] [] hC hw kc_0 hi0 (k_X0_judgeJump _ hi0 hq92) mk_X0_judgeJump lk_780 ⟨Nat.le_trans (by decide) hR.1, Nat.le_trans (by decide) hR.2⟩ ⟨Nat.zero_le _, Nat.zero_le _⟩ rfl hl.1 rfl rfl (Nat.le_of_ble_eq_true rfl) dX0_judgeSlot_179 (fun hP H locs hw => ?_)
    cases h
    exact r_iret hC hw dX0_judgeSlot_182
  · have h := i_yes c91 h
    refine lv_aload_n hx hb dX0_judgeSlot_160 rfl (lv_at hl 0 rfl) ?_
    refine lv_iload_n hx hb dX0_judgeSlot_161 rfl (lv_at hl 1 rfl) ?_
    refine lv_aload_n hx hb dX0_judgeSlot_162 rfl (lv_at hl 0 rfl) ?_
    obtain ⟨o95, ho98, h⟩ := rq_i h
    refine r_getR hC hw kc_0 hi0 0 rfl lk_317 dX0_judgeSlot_163 rfl ho98 (fun a96 hi97 => ?_)
    obtain ⟨o99, ho102, h⟩ := rq_i h
    refine r_getR hC hw kc_3 hi97 4 rfl lk_155 dX0_judgeSlot_166 rfl ho102 (fun a100 hi101 => ?_)
    refine lv_iload_n hx hb dX0_judgeSlot_169 rfl (lv_at hl 1 rfl) ?_
    obtain ⟨hn103, h⟩ := ix_i h
    refine r_iald hC hw hi101 hn103 dX0_judgeSlot_170 ?_
    obtain ⟨r105, D106, hq104, h⟩ := cq_i h
    refine r_cV (st' := [.int r105]) [.int x1, .int (gI D90 o99 x1.toNatClampNeg)] [] hC hw kc_0 hi0 (k_X0_judgeCall _ hi0 hq104) mk_X0_judgeCall lk_769 ⟨Nat.le_trans (by decide) hR.1, Nat.le_trans (by decide) hR.2⟩ ⟨Nat.zero_le _, Nat.zero_le _⟩ rfl hl.1 rfl rfl (Nat.le_of_ble_eq_true rfl) dX0_judgeSlot_171 (fun hP H locs hw => ?_)
    refine lv_goto (tgt := 182) hx hb dX0_judgeSlot_174 (by decide) ?_
    cases h
    exact r_iret hC hw dX0_judgeSlot_182
set_option maxHeartbeats 4000000 in
set_option maxRecDepth 100000 in
theorem w_X0_judgeSlot_141 {r : Int32} {D' : dt} (hC : Cx RX0 cX0_judgeSlot 3 (some .int) p s m args meth c) (hR : 5 ≤ R.frames ∧ 142 ≤ R.locals) : ∀ (o0 a0 : Nat) (x1 : Int32) (D : dt) (H : Heap) (locs : List Loc) (ls : Array Slot), Is S ad o0 a0 0 → Wd G cA S D ad A s H locs → lv_has ls 3 [(0, .ref a0), (1, .int x1)] → f_X0_judgeSlot_141 S o0 x1 D = some (r, D') → W p l e R s m args below meth c H locs 0 0 (MQ below (Qn (some (.int r)) True (wpost G cA S D' ad A) A) args s 0 0 A) (F0 m 141 ls []) := by
  obtain ⟨hx, hb, -⟩ := id hC
  intro o0 a0 x1 D H locs ls hi0 hw hl h
  unfold f_X0_judgeSlot_141 at h
  refine lv_aload_n hx hb dX0_judgeSlot_141 rfl (lv_at hl 0 rfl) ?_
  refine lv_iload_n hx hb dX0_judgeSlot_142 rfl (lv_at hl 1 rfl) ?_
  obtain ⟨r108, D109, hq107, h⟩ := cq_i h
  refine r_cV (st' := [.int r108]) [.int x1] [] hC hw kc_0 hi0 (k_X0_judgeArithmetic _ hi0 hq107) mk_X0_judgeArithmetic lk_667 ⟨Nat.le_trans (by decide) hR.1, Nat.le_trans (by decide) hR.2⟩ ⟨Nat.zero_le _, Nat.zero_le _⟩ rfl hl.1 rfl rfl (Nat.le_of_ble_eq_true rfl) dX0_judgeSlot_143 (fun hP H locs hw => ?_)
  cases h
  exact r_iret hC hw dX0_judgeSlot_146
set_option maxHeartbeats 4000000 in
set_option maxRecDepth 100000 in
theorem w_X0_judgeSlot_0 {r : Int32} {D' : dt} (hC : Cx RX0 cX0_judgeSlot 3 (some .int) p s m args meth c) (hR : 5 ≤ R.frames ∧ 142 ≤ R.locals) : ∀ (o0 a0 : Nat) (x1 : Int32) (o2 a2 : Nat) (D : dt) (H : Heap) (locs : List Loc) (ls : Array Slot), Is S ad o0 a0 0 → Is S ad o2 a2 4 → Wd G cA S D ad A s H locs → lv_has ls 3 [(0, .ref a0), (1, .int x1), (2, .ref a2)] → f_X0_judgeSlot S o0 x1 o2 D = some (r, D') → W p l e R s m args below meth c H locs 0 0 (MQ below (Qn (some (.int r)) True (wpost G cA S D' ad A) A) args s 0 0 A) (F0 m 0 ls []) := by
  obtain ⟨hx, hb, -⟩ := id hC
  intro o0 a0 x1 o2 a2 D H locs ls hi0 hi2 hw hl h
  unfold f_X0_judgeSlot at h
  refine lv_aload_n hx hb dX0_judgeSlot_0 rfl (lv_at hl 0 rfl) ?_
  obtain ⟨o110, ho113, h⟩ := rq_i h
  refine r_getR hC hw kc_0 hi0 0 rfl lk_317 dX0_judgeSlot_1 rfl ho113 (fun a111 hi112 => ?_)
  refine lv_iload_n hx hb dX0_judgeSlot_4 rfl (lv_at hl 1 rfl) ?_
  obtain ⟨r115, D116, hq114, h⟩ := cq_i h
  refine r_cV (st' := [.int r115]) [.int x1] [] hC hw kc_3 hi112 (k_X4_isBad _ hi112 hq114) mk_X4_isBad lk_498 ⟨Nat.le_trans (by decide) hR.1, Nat.le_trans (by decide) hR.2⟩ ⟨Nat.zero_le _, Nat.zero_le _⟩ rfl hl.1 rfl rfl (Nat.le_of_ble_eq_true rfl) dX0_judgeSlot_5 (fun hP H locs hw => ?_)
  refine lv_if_eq (tgt := 13) hx hb dX0_judgeSlot_8 (by decide) (fun c117 => ?_) (fun c117 => ?_)
  · have h := i_yes c117 h
    refine lv_aload_n hx hb dX0_judgeSlot_13 rfl (lv_at hl 0 rfl) ?_
    obtain ⟨o118, ho121, h⟩ := rq_i h
    refine r_getR hC hw kc_0 hi0 4 rfl lk_321 dX0_judgeSlot_14 rfl ho121 (fun a119 hi120 => ?_)
    refine lv_aload_n hx hb dX0_judgeSlot_17 rfl (lv_at hl 2 rfl) ?_
    obtain ⟨_, D123, hq122, h⟩ := cq_i h
    refine r_cV (st' := []) [.ref a2] [] hC hw kc_4 hi120 (k_X5_copyFrom _ hi120 hi2 hq122) mk_X5_copyFrom lk_483 ⟨Nat.le_trans (by decide) hR.1, Nat.le_trans (by decide) hR.2⟩ ⟨Nat.zero_le _, Nat.zero_le _⟩ rfl hl.1 rfl rfl (Nat.le_of_ble_eq_true rfl) dX0_judgeSlot_18 (fun hP H locs hw => ?_)
    refine lv_aload_n hx hb dX0_judgeSlot_21 rfl (lv_at hl 0 rfl) ?_
    refine lv_iconst (v := 1) hx hb dX0_judgeSlot_22 (by decide) ?_
    refine r_pI hC hw kc_0 hi0 8 rfl lk_326 rfl rfl rfl dX0_judgeSlot_23 (fun D124 eD124 H locs hw => ?_)
    have h := nm_i h D124 eD124
    refine lv_aload_n hx hb dX0_judgeSlot_26 rfl (lv_at hl 0 rfl) ?_
    refine lv_iload_n hx hb dX0_judgeSlot_27 rfl (lv_at hl 1 rfl) ?_
    refine lv_iconst (v := 1) hx hb dX0_judgeSlot_28 (by decide) ?_
    refine lv_iadd hx hb dX0_judgeSlot_29 ?_
    refine lv_i2l (v := (x1 + (1 : Int32)).toInt64) hx hb dX0_judgeSlot_30 rfl ?_
    refine r_pL hC hw kc_0 hi0 9 rfl lk_327 rfl rfl rfl dX0_judgeSlot_31 (fun D125 eD125 H locs hw => ?_)
    have h := nm_i h D125 eD125
    refine lv_aload_n hx hb dX0_judgeSlot_34 rfl (lv_at hl 0 rfl) ?_
    refine lv_iconst (v := 0) hx hb dX0_judgeSlot_35 (by decide) ?_
    refine r_pI hC hw kc_0 hi0 10 rfl lk_328 rfl rfl rfl dX0_judgeSlot_36 (fun D126 eD126 H locs hw => ?_)
    have h := nm_i h D126 eD126
    refine lv_aload_n hx hb dX0_judgeSlot_39 rfl (lv_at hl 0 rfl) ?_
    obtain ⟨o127, ho130, h⟩ := rq_i h
    refine r_getR hC hw kc_0 hi0 0 rfl lk_317 dX0_judgeSlot_40 rfl ho130 (fun a128 hi129 => ?_)
    obtain ⟨o131, ho134, h⟩ := rq_i h
    refine r_getR hC hw kc_3 hi129 0 rfl lk_143 dX0_judgeSlot_43 rfl ho134 (fun a132 hi133 => ?_)
    refine lv_iload_n hx hb dX0_judgeSlot_46 rfl (lv_at hl 1 rfl) ?_
    obtain ⟨hn135, h⟩ := ix_i h
    refine r_iald hC hw hi133 hn135 dX0_judgeSlot_47 ?_
    refine lv_bipush (v := 7) hx hb dX0_judgeSlot_48 (by decide) ?_
    refine lv_iand hx hb dX0_judgeSlot_50 ?_
    by_cases c136 : ((gI D126 o131 x1.toNatClampNeg) &&& (7 : Int32)) = 0
    · have h := i_yes c136 h
      refine lv_tableIn (off := 45) (tgt := 96) hx hb dX0_judgeSlot_51 (by rw [c136]; decide) (by rw [c136]; decide) (by rw [c136] <;> rfl) (by decide) ?_
      refine lv_aload_n hx hb dX0_judgeSlot_96 rfl (lv_at hl 0 rfl) ?_
      refine lv_iload_n hx hb dX0_judgeSlot_97 rfl (lv_at hl 1 rfl) ?_
      obtain ⟨r138, D139, hq137, h⟩ := cq_i h
      refine r_cV (st' := [.int r138]) [.int x1] [] hC hw kc_0 hi0 (k_X0_judgePair _ hi0 hq137) mk_X0_judgePair lk_560 ⟨Nat.le_trans (by decide) hR.1, Nat.le_trans (by decide) hR.2⟩ ⟨Nat.zero_le _, Nat.zero_le _⟩ rfl hl.1 rfl rfl (Nat.le_of_ble_eq_true rfl) dX0_judgeSlot_98 (fun hP H locs hw => ?_)
      cases h
      exact r_iret hC hw dX0_judgeSlot_101
    have h := i_no c136 h
    by_cases c140 : ((gI D126 o131 x1.toNatClampNeg) &&& (7 : Int32)) = 1
    · have h := i_yes c140 h
      refine lv_tableIn (off := 51) (tgt := 102) hx hb dX0_judgeSlot_51 (by rw [c140]; decide) (by rw [c140]; decide) (by rw [c140] <;> rfl) (by decide) ?_
      refine lv_aload_n hx hb dX0_judgeSlot_102 rfl (lv_at hl 0 rfl) ?_
      refine lv_iload_n hx hb dX0_judgeSlot_103 rfl (lv_at hl 1 rfl) ?_
      obtain ⟨r142, D143, hq141, h⟩ := cq_i h
      refine r_cV (st' := [.int r142]) [.int x1] [] hC hw kc_0 hi0 (k_X0_judgeLoad _ hi0 hq141) mk_X0_judgeLoad lk_574 ⟨Nat.le_trans (by decide) hR.1, Nat.le_trans (by decide) hR.2⟩ ⟨Nat.zero_le _, Nat.zero_le _⟩ rfl hl.1 rfl rfl (Nat.le_of_ble_eq_true rfl) dX0_judgeSlot_104 (fun hP H locs hw => ?_)
      cases h
      exact r_iret hC hw dX0_judgeSlot_107
    have h := i_no c140 h
    by_cases c144 : ((gI D126 o131 x1.toNatClampNeg) &&& (7 : Int32)) = 2
    · have h := i_yes c144 h
      refine lv_tableIn (off := 57) (tgt := 108) hx hb dX0_judgeSlot_51 (by rw [c144]; decide) (by rw [c144]; decide) (by rw [c144] <;> rfl) (by decide) ?_
      refine lv_aload_n hx hb dX0_judgeSlot_108 rfl (lv_at hl 0 rfl) ?_
      refine lv_iload_n hx hb dX0_judgeSlot_109 rfl (lv_at hl 1 rfl) ?_
      refine lv_iconst (v := 0) hx hb dX0_judgeSlot_110 (by decide) ?_
      obtain ⟨r146, D147, hq145, h⟩ := cq_i h
      refine r_cV (st' := [.int r146]) [.int x1, .int (0 : Int32)] [] hC hw kc_0 hi0 (k_X0_judgePut _ hi0 hq145) mk_X0_judgePut lk_634 ⟨Nat.le_trans (by decide) hR.1, Nat.le_trans (by decide) hR.2⟩ ⟨Nat.zero_le _, Nat.zero_le _⟩ rfl hl.1 rfl rfl (Nat.le_of_ble_eq_true rfl) dX0_judgeSlot_111 (fun hP H locs hw => ?_)
      cases h
      exact r_iret hC hw dX0_judgeSlot_114
    have h := i_no c144 h
    by_cases c148 : ((gI D126 o131 x1.toNatClampNeg) &&& (7 : Int32)) = 3
    · have h := i_yes c148 h
      refine lv_tableIn (off := 64) (tgt := 115) hx hb dX0_judgeSlot_51 (by rw [c148]; decide) (by rw [c148]; decide) (by rw [c148] <;> rfl) (by decide) ?_
      refine lv_aload_n hx hb dX0_judgeSlot_115 rfl (lv_at hl 0 rfl) ?_
      obtain ⟨o149, ho152, h⟩ := rq_i h
      refine r_getR hC hw kc_0 hi0 0 rfl lk_317 dX0_judgeSlot_116 rfl ho152 (fun a150 hi151 => ?_)
      refine lv_iload_n hx hb dX0_judgeSlot_119 rfl (lv_at hl 1 rfl) ?_
      obtain ⟨r154, D155, hq153, h⟩ := cq_i h
      refine r_cV (st' := [.int r154]) [.int x1] [] hC hw kc_3 hi151 (k_X4_isPlainPut _ hi151 hq153) mk_X4_isPlainPut lk_662 ⟨Nat.le_trans (by decide) hR.1, Nat.le_trans (by decide) hR.2⟩ ⟨Nat.zero_le _, Nat.zero_le _⟩ rfl hl.1 rfl rfl (Nat.le_of_ble_eq_true rfl) dX0_judgeSlot_120 (fun hP H locs hw => ?_)
      refine lv_if_eq (tgt := 135) hx hb dX0_judgeSlot_123 (by decide) (fun c156 => ?_) (fun c156 => ?_)
      · have h := i_yes c156 h
        refine lv_aload_n hx hb dX0_judgeSlot_135 rfl (lv_at hl 0 rfl) ?_
        refine lv_iload_n hx hb dX0_judgeSlot_136 rfl (lv_at hl 1 rfl) ?_
        obtain ⟨r158, D159, hq157, h⟩ := cq_i h
        refine r_cV (st' := [.int r158]) [.int x1] [] hC hw kc_0 hi0 (k_X0_judgeChange _ hi0 hq157) mk_X0_judgeChange lk_663 ⟨Nat.le_trans (by decide) hR.1, Nat.le_trans (by decide) hR.2⟩ ⟨Nat.zero_le _, Nat.zero_le _⟩ rfl hl.1 rfl rfl (Nat.le_of_ble_eq_true rfl) dX0_judgeSlot_137 (fun hP H locs hw => ?_)
        cases h
        exact r_iret hC hw dX0_judgeSlot_140
      · have h := i_no c156 h
        refine lv_aload_n hx hb dX0_judgeSlot_126 rfl (lv_at hl 0 rfl) ?_
        refine lv_iload_n hx hb dX0_judgeSlot_127 rfl (lv_at hl 1 rfl) ?_
        refine lv_iconst (v := 1) hx hb dX0_judgeSlot_128 (by decide) ?_
        obtain ⟨r161, D162, hq160, h⟩ := cq_i h
        refine r_cV (st' := [.int r161]) [.int x1, .int (1 : Int32)] [] hC hw kc_0 hi0 (k_X0_judgePut _ hi0 hq160) mk_X0_judgePut lk_634 ⟨Nat.le_trans (by decide) hR.1, Nat.le_trans (by decide) hR.2⟩ ⟨Nat.zero_le _, Nat.zero_le _⟩ rfl hl.1 rfl rfl (Nat.le_of_ble_eq_true rfl) dX0_judgeSlot_129 (fun hP H locs hw => ?_)
        refine lv_goto (tgt := 140) hx hb dX0_judgeSlot_132 (by decide) ?_
        cases h
        exact r_iret hC hw dX0_judgeSlot_140
    have h := i_no c148 h
    by_cases c163 : ((gI D126 o131 x1.toNatClampNeg) &&& (7 : Int32)) = 4
    · have h := i_yes c163 h
      refine lv_tableIn (off := 90) (tgt := 141) hx hb dX0_judgeSlot_51 (by rw [c163]; decide) (by rw [c163]; decide) (by rw [c163] <;> rfl) (by decide) ?_
      exact w_X0_judgeSlot_141 hC hR o0 a0 x1 _ _ _ _ hi0 hw (lv_sub hl [0, 1] rfl) h
    have h := i_no c163 h
    by_cases c164 : ((gI D126 o131 x1.toNatClampNeg) &&& (7 : Int32)) = 5
    · have h := i_yes c164 h
      refine lv_tableIn (off := 96) (tgt := 147) hx hb dX0_judgeSlot_51 (by rw [c164]; decide) (by rw [c164]; decide) (by rw [c164] <;> rfl) (by decide) ?_
      exact w_X0_judgeSlot_147 hC hR o0 a0 x1 _ _ _ _ hi0 hw (lv_sub hl [0, 1] rfl) h
    have h := i_no c164 h
    by_cases c165 : ((gI D126 o131 x1.toNatClampNeg) &&& (7 : Int32)) = 6
    · have h := i_yes c165 h
      refine lv_tableIn (off := 96) (tgt := 147) hx hb dX0_judgeSlot_51 (by rw [c165]; decide) (by rw [c165]; decide) (by rw [c165] <;> rfl) (by decide) ?_
      exact w_X0_judgeSlot_147 hC hR o0 a0 x1 _ _ _ _ hi0 hw (lv_sub hl [0, 1] rfl) h
    have h := i_no c165 h
    by_cases c166 : ((gI D126 o131 x1.toNatClampNeg) &&& (7 : Int32)) = 7
    · have h := i_yes c166 h
      refine lv_tableIn (off := 90) (tgt := 141) hx hb dX0_judgeSlot_51 (by rw [c166]; decide) (by rw [c166]; decide) (by rw [c166] <;> rfl) (by decide) ?_
      exact w_X0_judgeSlot_141 hC hR o0 a0 x1 _ _ _ _ hi0 hw (lv_sub hl [0, 1] rfl) h
    have h := i_no c166 h
    refine lv_tableOut (tgt := 147) hx hb dX0_judgeSlot_51 (by have nc136 := lv_neT c136 (a := 0) rfl; have nc140 := lv_neT c140 (a := 1) rfl; have nc144 := lv_neT c144 (a := 2) rfl; have nc148 := lv_neT c148 (a := 3) rfl; have nc163 := lv_neT c163 (a := 4) rfl; have nc164 := lv_neT c164 (a := 5) rfl; have nc165 := lv_neT c165 (a := 6) rfl; have nc166 := lv_neT c166 (a := 7) rfl; omega) (by decide) ?_
    exact w_X0_judgeSlot_147 hC hR o0 a0 x1 _ _ _ _ hi0 hw (lv_sub hl [0, 1] rfl) h
  · have h := i_no c117 h
    refine lv_iconst (v := 1) hx hb dX0_judgeSlot_11 (by decide) ?_
    cases h
    exact r_iret hC hw dX0_judgeSlot_12
set_option maxHeartbeats 4000000 in
set_option maxRecDepth 100000 in
theorem k_X0_judgeSlot {l : Launch} {G : va_G} {cA : Nat → ClassId} {S : sh} {D D' : dt} {ad : Nat → Nat} (sz : Nat) {o0 a0 : Nat} {x1 : Int32} {o2 a2 : Nat} {r : Int32} (hi0 : Is S ad o0 a0 0) (hi2 : Is S ad o2 a2 4) (h : f_X0_judgeSlot S o0 x1 o2 D = some (r, D')) : Co l yX0_judgeSlot (Cond.code yX0_judgeSlot cX0_judgeSlot 3 (some .int) :: tb0) 5 142 [.ref a0, .int x1, .ref a2] G cA S D ad sz (some (.int r)) True D' := by
  refine Met.ofW (cc := cX0_judgeSlot) (maxL := 3) (ret := (some .int)) (by decide) rfl ?_
  intro p e s m args below meth c s₁ B hml hv
  obtain ⟨rfl, hsz, hP, hK, hD0, hT, hX⟩ := hv
  subst hsz
  have hts := atoms_spec (ws := Cond.code yX0_judgeSlot cX0_judgeSlot 3 (some .int) :: tb0) B.pre
  have hC : Cx RX0 cX0_judgeSlot 3 (some .int) p s m _ meth c := ⟨B.exec, B.bytes, hml, findClass_of_methodNamed B.named, fun w q => hts w (List.mem_cons_of_mem _ q), B.returns, B.notSynchronized⟩
  have hw := Wd.entry hP hK hD0 hT hX
  have hl := lv_entry ([.ref a0, .int x1, .ref a2]) (n := 3) (Nat.le_of_ble_eq_true rfl)
  rw [lg_entry_eq]
  exact w_X0_judgeSlot_0 hC ⟨Nat.le_refl _, Nat.le_refl _⟩ o0 a0 x1 o2 a2 D _ _ _ hi0 hi2 hw hl h
set_option maxHeartbeats 4000000 in
set_option maxRecDepth 100000 in
theorem w_X0_canGoOn_0 {r : Int32} {D' : dt} (hC : Cx RX0 cX0_canGoOn 4 (some .boolean) p s m args meth c) (hR : 0 ≤ R.frames ∧ 0 ≤ R.locals) : ∀ (o0 a0 : Nat) (x1 : Int32) (x2 : Int64) (D : dt) (H : Heap) (locs : List Loc) (ls : Array Slot), Is S ad o0 a0 0 → Wd G cA S D ad A s H locs → lv_has ls 4 [(0, .ref a0), (1, .int x1), (2, .long x2)] → f_X0_canGoOn S o0 x1 x2 D = some (r, D') → W p l e R s m args below meth c H locs 0 0 (MQ below (Qn (some (.int r)) True (wpost G cA S D' ad A) A) args s 0 0 A) (F0 m 0 ls []) := by
  obtain ⟨hx, hb, -⟩ := id hC
  intro o0 a0 x1 x2 D H locs ls hi0 hw hl h
  unfold f_X0_canGoOn at h
  refine lv_lload_n hx hb dX0_canGoOn_0 rfl (lv_at hl 2 rfl) ?_
  refine lv_iload_n hx hb dX0_canGoOn_1 rfl (lv_at hl 1 rfl) ?_
  refine lv_i2l (v := x1.toInt64) hx hb dX0_canGoOn_2 rfl ?_
  refine W.lcmp hx hb dX0_canGoOn_3 ?_
  refine lv_if_le (tgt := 34) hx hb dX0_canGoOn_4 (by decide) (fun c13 => ?_) (fun c13 => ?_)
  · have h := i_yes c13 h
    refine lv_iconst (v := 0) hx hb dX0_canGoOn_34 (by decide) ?_
    cases h
    exact r_zret hC hw (Or.inl rfl) dX0_canGoOn_35
  · have h := i_no c13 h
    refine lv_lload_n hx hb dX0_canGoOn_7 rfl (lv_at hl 2 rfl) ?_
    refine lv_aload_n hx hb dX0_canGoOn_8 rfl (lv_at hl 0 rfl) ?_
    obtain ⟨o14, ho17, h⟩ := rq_i h
    refine r_getR hC hw kc_0 hi0 0 rfl lk_317 dX0_canGoOn_9 rfl ho17 (fun a15 hi16 => ?_)
    refine r_gI hC hw kc_3 hi16 5 rfl lk_158 dX0_canGoOn_12 ?_
    refine lv_i2l (v := (gI D o14 5).toInt64) hx hb dX0_canGoOn_15 rfl ?_
    refine W.lcmp hx hb dX0_canGoOn_16 ?_
    refine lv_if_ge (tgt := 34) hx hb dX0_canGoOn_17 (by decide) (fun c18 => ?_) (fun c18 => ?_)
    · have h := i_yes c18 h
      refine lv_iconst (v := 0) hx hb dX0_canGoOn_34 (by decide) ?_
      cases h
      exact r_zret hC hw (Or.inl rfl) dX0_canGoOn_35
    · have h := i_no c18 h
      refine lv_aload_n hx hb dX0_canGoOn_20 rfl (lv_at hl 0 rfl) ?_
      obtain ⟨o19, ho22, h⟩ := rq_i h
      refine r_getR hC hw kc_0 hi0 3 rfl lk_320 dX0_canGoOn_21 rfl ho22 (fun a20 hi21 => ?_)
      refine lv_lload_n hx hb dX0_canGoOn_24 rfl (lv_at hl 2 rfl) ?_
      refine lv_l2i (v := x2.toInt32) hx hb dX0_canGoOn_25 rfl ?_
      obtain ⟨hn23, h⟩ := ix_i h
      refine r_zald hC hw hi21 hn23 dX0_canGoOn_26 ?_
      refine lv_if_ne (tgt := 34) hx hb dX0_canGoOn_27 (by decide) (fun c24 => ?_) (fun c24 => ?_)
      · have h := i_no c24 h
        refine lv_iconst (v := 0) hx hb dX0_canGoOn_34 (by decide) ?_
        cases h
        exact r_zret hC hw (Or.inl rfl) dX0_canGoOn_35
      · have h := i_yes c24 h
        refine lv_iconst (v := 1) hx hb dX0_canGoOn_30 (by decide) ?_
        refine lv_goto (tgt := 35) hx hb dX0_canGoOn_31 (by decide) ?_
        cases h
        exact r_zret hC hw (Or.inr rfl) dX0_canGoOn_35
set_option maxHeartbeats 4000000 in
set_option maxRecDepth 100000 in
theorem k_X0_canGoOn {l : Launch} {G : va_G} {cA : Nat → ClassId} {S : sh} {D D' : dt} {ad : Nat → Nat} (sz : Nat) {o0 a0 : Nat} {x1 : Int32} {x2 : Int64} {r : Int32} (hi0 : Is S ad o0 a0 0) (h : f_X0_canGoOn S o0 x1 x2 D = some (r, D')) : Co l yX0_canGoOn (Cond.code yX0_canGoOn cX0_canGoOn 4 (some .boolean) :: tb0) 0 0 [.ref a0, .int x1, .long x2] G cA S D ad sz (some (.int r)) True D' := by
  refine Met.ofW (cc := cX0_canGoOn) (maxL := 4) (ret := (some .boolean)) (by decide) rfl ?_
  intro p e s m args below meth c s₁ B hml hv
  obtain ⟨rfl, hsz, hP, hK, hD0, hT, hX⟩ := hv
  subst hsz
  have hts := atoms_spec (ws := Cond.code yX0_canGoOn cX0_canGoOn 4 (some .boolean) :: tb0) B.pre
  have hC : Cx RX0 cX0_canGoOn 4 (some .boolean) p s m _ meth c := ⟨B.exec, B.bytes, hml, findClass_of_methodNamed B.named, fun w q => hts w (List.mem_cons_of_mem _ q), B.returns, B.notSynchronized⟩
  have hw := Wd.entry hP hK hD0 hT hX
  have hl := lv_entry ([.ref a0, .int x1, .long x2]) (n := 4) (Nat.le_of_ble_eq_true rfl)
  rw [lg_entry_eq]
  exact w_X0_canGoOn_0 hC ⟨Nat.le_refl _, Nat.le_refl _⟩ o0 a0 x1 x2 D _ _ _ hi0 hw hl h
theorem mn_X0_comeTo_22 {r : Unit} {S' : sh} {D' : dt} {o0 : Nat} {x1 : Int32} {o2 : Nat} {S : sh} {D : dt} (h : f_X0_comeTo_22 o0 x1 o2 S D = some (r, S', D')) : Ext S S' := by
  unfold f_X0_comeTo_22 at h
  obtain ⟨o68, ho71, h⟩ := rq_i h
  obtain ⟨hn72, h⟩ := ix_i h
  rcases oq_i h with ⟨ho76, h⟩ | ⟨o73, ho76, h⟩
  · skip
    cases h
  · skip
    rcases (Decidable.em ((gI D o73 0) = 0)) with c77 | c77
    · have h := i_yes c77 h
      obtain ⟨o78, ho81, h⟩ := rq_i h
      obtain ⟨hn82, h⟩ := ix_i h
      rcases oq_i h with ⟨ho86, h⟩ | ⟨o83, ho86, h⟩
      · skip
        cases h
      · skip
        obtain ⟨_, D88, hq87, h⟩ := cq_i h
        cases h
        exact Ext.rf _
    · have h := i_no c77 h
      obtain ⟨o89, ho92, h⟩ := rq_i h
      obtain ⟨hn93, h⟩ := ix_i h
      rcases oq_i h with ⟨ho97, h⟩ | ⟨o94, ho97, h⟩
      · skip
        cases h
      · skip
        obtain ⟨_, D99, hq98, h⟩ := cq_i h
        cases h
        exact Ext.rf _
set_option maxHeartbeats 4000000 in
set_option maxRecDepth 100000 in
theorem w_X0_comeTo_22 {r : Unit} {S' : sh} {D' : dt} {S0 : sh} {ad0 : Nat → Nat} (hC : Cx RX0 cX0_comeTo 3 none p s m args meth c) (hR : 3 ≤ R.frames ∧ 79 ≤ R.locals) (ho : R.cells = sN S' - sN S0 ∧ R.slots = sZ S' - sZ S0) : ∀ (o0 a0 : Nat) (x1 : Int32) (o2 a2 : Nat) (S : sh) (D : dt) (ad : Nat → Nat) (H : Heap) (locs : List Loc) (ls : Array Slot) (cells slots : Nat), Is S ad o0 a0 0 → Is S ad o2 a2 4 → Wd G cA S D ad A s H locs → Al S0 ad0 S ad cells slots → lv_has ls 3 [(0, .ref a0), (1, .int x1), (2, .ref a2)] → f_X0_comeTo_22 o0 x1 o2 S D = some (r, S', D') → W p l e R s m args below meth c H locs cells slots (MQ below (Qa (fun _ => none) (fun ad' => (∀ k, k < sN S0 → ad' k = ad0 k) ∧ True) (fun ad' => wpost G cA S' D' ad' A) A) args s (sN S' - sN S0) (sZ S' - sZ S0) A) (F0 m 22 ls []) := by
  obtain ⟨hx, hb, -⟩ := id hC
  intro o0 a0 x1 o2 a2 S D ad H locs ls cells slots hi0 hi2 hw hc hl h
  have hE : Ext S S' := mn_X0_comeTo_22  h
  unfold f_X0_comeTo_22 at h
  refine lv_aload_n hx hb dX0_comeTo_22 rfl (lv_at hl 0 rfl) ?_
  obtain ⟨o68, ho71, h⟩ := rq_i h
  refine r_getR hC hw kc_0 hi0 2 rfl lk_319 dX0_comeTo_23 rfl ho71 (fun a69 hi70 => ?_)
  refine lv_iload_n hx hb dX0_comeTo_26 rfl (lv_at hl 1 rfl) ?_
  obtain ⟨hn72, h⟩ := ix_i h
  rcases oq_i h with ⟨ho76, h⟩ | ⟨o73, ho76, h⟩
  · refine r_aaldN hC hw hi70 (by decide) 4 rfl hn72 dX0_comeTo_27 ho76 ?_
    cases h
  · refine r_aald hC hw hi70 (by decide) 4 rfl hn72 dX0_comeTo_27 (fun _ => rfl) ho76 (fun a74 hi75 => ?_)
    refine r_gI hC hw kc_4 hi75 0 rfl lk_263 dX0_comeTo_28 ?_
    refine lv_if_eq (tgt := 47) hx hb dX0_comeTo_31 (by decide) (fun c77 => ?_) (fun c77 => ?_)
    · have h := i_yes c77 h
      refine lv_aload_n hx hb dX0_comeTo_47 rfl (lv_at hl 0 rfl) ?_
      obtain ⟨o78, ho81, h⟩ := rq_i h
      refine r_getR hC hw kc_0 hi0 2 rfl lk_319 dX0_comeTo_48 rfl ho81 (fun a79 hi80 => ?_)
      refine lv_iload_n hx hb dX0_comeTo_51 rfl (lv_at hl 1 rfl) ?_
      obtain ⟨hn82, h⟩ := ix_i h
      rcases oq_i h with ⟨ho86, h⟩ | ⟨o83, ho86, h⟩
      · refine r_aaldN hC hw hi80 (by decide) 4 rfl hn82 dX0_comeTo_52 ho86 ?_
        refine lv_aload_n hx hb dX0_comeTo_53 rfl (lv_at hl 2 rfl) ?_
        cases h
      · refine r_aald hC hw hi80 (by decide) 4 rfl hn82 dX0_comeTo_52 (fun _ => rfl) ho86 (fun a84 hi85 => ?_)
        refine lv_aload_n hx hb dX0_comeTo_53 rfl (lv_at hl 2 rfl) ?_
        obtain ⟨_, D88, hq87, h⟩ := cq_i h
        refine r_cV (st' := []) [.ref a2] [] hC hw kc_4 hi85 (k_X5_copyFrom _ hi85 hi2 hq87) mk_X5_copyFrom lk_483 ⟨Nat.le_trans (by decide) hR.1, Nat.le_trans (by decide) hR.2⟩ (hc.le ho hE) rfl hl.1 rfl rfl (Nat.le_of_ble_eq_true rfl) dX0_comeTo_54 (fun hP H locs hw => ?_)
        cases h
        exact r_vretA hC hw hc dX0_comeTo_57
    · have h := i_no c77 h
      refine lv_aload_n hx hb dX0_comeTo_34 rfl (lv_at hl 0 rfl) ?_
      obtain ⟨o89, ho92, h⟩ := rq_i h
      refine r_getR hC hw kc_0 hi0 2 rfl lk_319 dX0_comeTo_35 rfl ho92 (fun a90 hi91 => ?_)
      refine lv_iload_n hx hb dX0_comeTo_38 rfl (lv_at hl 1 rfl) ?_
      obtain ⟨hn93, h⟩ := ix_i h
      rcases oq_i h with ⟨ho97, h⟩ | ⟨o94, ho97, h⟩
      · refine r_aaldN hC hw hi91 (by decide) 4 rfl hn93 dX0_comeTo_39 ho97 ?_
        refine lv_aload_n hx hb dX0_comeTo_40 rfl (lv_at hl 2 rfl) ?_
        cases h
      · refine r_aald hC hw hi91 (by decide) 4 rfl hn93 dX0_comeTo_39 (fun _ => rfl) ho97 (fun a95 hi96 => ?_)
        refine lv_aload_n hx hb dX0_comeTo_40 rfl (lv_at hl 2 rfl) ?_
        obtain ⟨_, D99, hq98, h⟩ := cq_i h
        refine r_cV (st' := []) [.ref a2] [] hC hw kc_4 hi96 (k_X5_joinWith _ hi96 hi2 hq98) mk_X5_joinWith lk_843 ⟨Nat.le_trans (by decide) hR.1, Nat.le_trans (by decide) hR.2⟩ (hc.le ho hE) rfl hl.1 rfl rfl (Nat.le_of_ble_eq_true rfl) dX0_comeTo_41 (fun hP H locs hw => ?_)
        refine lv_goto (tgt := 57) hx hb dX0_comeTo_44 (by decide) ?_
        cases h
        exact r_vretA hC hw hc dX0_comeTo_57
theorem mn_X0_comeTo_21 {r : Unit} {S' : sh} {D' : dt} {o0 : Nat} {x1 : Int32} {o2 : Nat} {os0 : Nat} {xs1 : Int32} {os2 : Nat} {S : sh} {D : dt} (h : f_X0_comeTo_21 o0 x1 o2 os0 xs1 os2 S D = some (r, S', D')) : Ext S S' := by
  unfold f_X0_comeTo_21 at h
  obtain ⟨hn100, h⟩ := ix_i h
  have h := nm_i h _ rfl
  exact (mn_X0_comeTo_22 h)
set_option maxHeartbeats 4000000 in
set_option maxRecDepth 100000 in
theorem w_X0_comeTo_21 {r : Unit} {S' : sh} {D' : dt} {S0 : sh} {ad0 : Nat → Nat} (hC : Cx RX0 cX0_comeTo 3 none p s m args meth c) (hR : 3 ≤ R.frames ∧ 79 ≤ R.locals) (ho : R.cells = sN S' - sN S0 ∧ R.slots = sZ S' - sZ S0) : ∀ (o0 a0 : Nat) (x1 : Int32) (o2 a2 : Nat) (os0 as0 : Nat) (xs1 : Int32) (os2 as2 : Nat) (S : sh) (D : dt) (ad : Nat → Nat) (H : Heap) (locs : List Loc) (ls : Array Slot) (cells slots : Nat), Is S ad o0 a0 0 → Is S ad o2 a2 4 → Is S ad os0 as0 204 → Is S ad os2 as2 4 → Wd G cA S D ad A s H locs → Al S0 ad0 S ad cells slots → lv_has ls 3 [(0, .ref a0), (1, .int x1), (2, .ref a2)] → f_X0_comeTo_21 o0 x1 o2 os0 xs1 os2 S D = some (r, S', D') → W p l e R s m args below meth c H locs cells slots (MQ below (Qa (fun _ => none) (fun ad' => (∀ k, k < sN S0 → ad' k = ad0 k) ∧ True) (fun ad' => wpost G cA S' D' ad' A) A) args s (sN S' - sN S0) (sZ S' - sZ S0) A) (F0 m 21 ls [.ref as2, .int xs1, .ref as0]) := by
  obtain ⟨hx, hb, -⟩ := id hC
  intro o0 a0 x1 o2 a2 os0 as0 xs1 os2 as2 S D ad H locs ls cells slots hi0 hi2 his0 his2 hw hc hl h
  have hE : Ext S S' := mn_X0_comeTo_21  h
  unfold f_X0_comeTo_21 at h
  obtain ⟨hn100, h⟩ := ix_i h
  refine r_aas hC hw his0 (by decide) 4 kc_4 rfl his2 (fun _ => rfl) hn100 dX0_comeTo_21 (fun D101 eD101 H locs hw => ?_)
  have h := nm_i h D101 eD101
  exact w_X0_comeTo_22 hC hR ho o0 a0 x1 o2 a2 _ _ _ _ _ _ _ _ hi0 hi2 hw hc (lv_sub hl [0, 1, 2] rfl) h --j102
theorem mn_X0_comeTo_17 {r : Unit} {S' : sh} {D' : dt} {o0 : Nat} {x1 : Int32} {o2 : Nat} {os0 : Nat} {xs1 : Int32} {os2 : Nat} {S : sh} {D : dt} (h : f_X0_comeTo_17 o0 x1 o2 os0 xs1 os2 S D = some (r, S', D')) : Ext S S' := by
  unfold f_X0_comeTo_17 at h
  obtain ⟨_, S105, D104, hq103, h⟩ := c3_i h
  have hA := mn_X5_init_0 hq103
  exact hA.tr (mn_X0_comeTo_21 h)
set_option maxHeartbeats 4000000 in
set_option maxRecDepth 100000 in
theorem w_X0_comeTo_17 {r : Unit} {S' : sh} {D' : dt} {S0 : sh} {ad0 : Nat → Nat} (hC : Cx RX0 cX0_comeTo 3 none p s m args meth c) (hR : 3 ≤ R.frames ∧ 79 ≤ R.locals) (ho : R.cells = sN S' - sN S0 ∧ R.slots = sZ S' - sZ S0) : ∀ (o0 a0 : Nat) (x1 : Int32) (o2 a2 : Nat) (os0 as0 : Nat) (xs1 : Int32) (os2 as2 : Nat) (S : sh) (D : dt) (ad : Nat → Nat) (H : Heap) (locs : List Loc) (ls : Array Slot) (cells slots : Nat), Is S ad o0 a0 0 → Is S ad o2 a2 4 → Is S ad os0 as0 204 → Is S ad os2 as2 4 → Wd G cA S D ad A s H locs → Al S0 ad0 S ad cells slots → lv_has ls 3 [(0, .ref a0), (1, .int x1), (2, .ref a2)] → f_X0_comeTo_17 o0 x1 o2 os0 xs1 os2 S D = some (r, S', D') → W p l e R s m args below meth c H locs cells slots (MQ below (Qa (fun _ => none) (fun ad' => (∀ k, k < sN S0 → ad' k = ad0 k) ∧ True) (fun ad' => wpost G cA S' D' ad' A) A) args s (sN S' - sN S0) (sZ S' - sZ S0) A) (F0 m 17 ls [.ref as2, .int xs1, .ref as0]) := by
  obtain ⟨hx, hb, -⟩ := id hC
  intro o0 a0 x1 o2 a2 os0 as0 xs1 os2 as2 S D ad H locs ls cells slots hi0 hi2 his0 his2 hw hc hl h
  have hE : Ext S S' := mn_X0_comeTo_17  h
  unfold f_X0_comeTo_17 at h
  refine lv_dup hx hb dX0_comeTo_17 rfl ?_
  obtain ⟨_, S105, D104, hq103, h⟩ := c3_i h
  have hE106 := mn_X5_init_0 hq103
  have hE107 := mn_X0_comeTo_21 h
  refine r_cINA [] [.ref as2, .int xs1, .ref as0] hC hw (k_X5_init _ his2 hq103) mk_X5_init hw.2.2.2.2.2.2.n2 ⟨Nat.le_trans (by decide) hR.1, Nat.le_trans (by decide) hR.2⟩ (hc.roomC ho hE106 hE107) rfl hl.1 rfl (Nat.le_of_ble_eq_true rfl) dX0_comeTo_18 (fun ad108 hP H locs hw => ?_)
  refine W.eq (g2 := F0 m 21 ls [.ref as2, .int xs1, .ref as0]) rfl ?_
  have hi109 := Is.up his2 hE106 hP.1
  have hi110 := Is.up his0 hE106 hP.1
  have hi111 := Is.up hi0 hE106 hP.1
  have hi112 := Is.up hi2 hE106 hP.1
  have hc := hc.call hE106 hP.1
  exact w_X0_comeTo_21 hC hR ho o0 a0 x1 o2 a2 os0 as0 xs1 os2 as2 _ _ _ _ _ _ _ _ hi111 hi112 hi110 hi109 hw hc (lv_sub hl [0, 1, 2] rfl) h --j113
theorem mn_X0_comeTo_0 {r : Unit} {S' : sh} {D' : dt} {o0 : Nat} {x1 : Int32} {o2 : Nat} {S : sh} {D : dt} (h : f_X0_comeTo o0 x1 o2 S D = some (r, S', D')) : Ext S S' := by
  unfold f_X0_comeTo at h
  obtain ⟨o114, ho117, h⟩ := rq_i h
  obtain ⟨hn118, h⟩ := ix_i h
  rcases oq_i h with ⟨ho122, h⟩ | ⟨o119, ho122, h⟩
  · skip
    obtain ⟨o123, ho126, h⟩ := rq_i h
    have hA := (Ext.aS S 4 0 6)
    exact hA.tr (mn_X0_comeTo_17 h)
  · skip
    exact (mn_X0_comeTo_22 h)
set_option maxHeartbeats 4000000 in
set_option maxRecDepth 100000 in
theorem w_X0_comeTo_0 {r : Unit} {S' : sh} {D' : dt} {S0 : sh} {ad0 : Nat → Nat} (hC : Cx RX0 cX0_comeTo 3 none p s m args meth c) (hR : 3 ≤ R.frames ∧ 79 ≤ R.locals) (ho : R.cells = sN S' - sN S0 ∧ R.slots = sZ S' - sZ S0) : ∀ (o0 a0 : Nat) (x1 : Int32) (o2 a2 : Nat) (S : sh) (D : dt) (ad : Nat → Nat) (H : Heap) (locs : List Loc) (ls : Array Slot) (cells slots : Nat), Is S ad o0 a0 0 → Is S ad o2 a2 4 → Wd G cA S D ad A s H locs → Al S0 ad0 S ad cells slots → lv_has ls 3 [(0, .ref a0), (1, .int x1), (2, .ref a2)] → f_X0_comeTo o0 x1 o2 S D = some (r, S', D') → W p l e R s m args below meth c H locs cells slots (MQ below (Qa (fun _ => none) (fun ad' => (∀ k, k < sN S0 → ad' k = ad0 k) ∧ True) (fun ad' => wpost G cA S' D' ad' A) A) args s (sN S' - sN S0) (sZ S' - sZ S0) A) (F0 m 0 ls []) := by
  obtain ⟨hx, hb, -⟩ := id hC
  intro o0 a0 x1 o2 a2 S D ad H locs ls cells slots hi0 hi2 hw hc hl h
  have hE : Ext S S' := mn_X0_comeTo_0  h
  unfold f_X0_comeTo at h
  refine lv_aload_n hx hb dX0_comeTo_0 rfl (lv_at hl 0 rfl) ?_
  obtain ⟨o114, ho117, h⟩ := rq_i h
  refine r_getR hC hw kc_0 hi0 2 rfl lk_319 dX0_comeTo_1 rfl ho117 (fun a115 hi116 => ?_)
  refine lv_iload_n hx hb dX0_comeTo_4 rfl (lv_at hl 1 rfl) ?_
  obtain ⟨hn118, h⟩ := ix_i h
  rcases oq_i h with ⟨ho122, h⟩ | ⟨o119, ho122, h⟩
  · refine r_aaldN hC hw hi116 (by decide) 4 rfl hn118 dX0_comeTo_5 ho122 ?_
    refine lv_ifnonnullN hx hb dX0_comeTo_6 ?_
    refine lv_aload_n hx hb dX0_comeTo_9 rfl (lv_at hl 0 rfl) ?_
    obtain ⟨o123, ho126, h⟩ := rq_i h
    refine r_getR hC hw kc_0 hi0 2 rfl lk_319 dX0_comeTo_10 rfl ho126 (fun a124 hi125 => ?_)
    refine lv_iload_n hx hb dX0_comeTo_13 rfl (lv_at hl 1 rfl) ?_
    have hE129 := mn_X0_comeTo_17 h
    refine r_new hC hw kc_4 df_4 lk_256 lk_258 lk_119 (hc.room ho hE129).1 (hc.room ho hE129).2 dX0_comeTo_14 (fun q127 H hw hi128 => ?_)
    have hi130 := Is.up hi125 (Ext.aS S 4 0 6) (up_lt (q := q127))
    have hi131 := Is.up hi0 (Ext.aS S 4 0 6) (up_lt (q := q127))
    have hi132 := Is.up hi2 (Ext.aS S 4 0 6) (up_lt (q := q127))
    have hc := hc.new 4 0 6 q127
    exact w_X0_comeTo_17 hC hR ho o0 a0 x1 o2 a2 o123 a124 x1 (sN S) q127 _ _ _ _ _ _ _ _ hi131 hi132 hi130 hi128 hw hc (lv_sub hl [0, 1, 2] rfl) h --j133
  · refine r_aald hC hw hi116 (by decide) 4 rfl hn118 dX0_comeTo_5 (fun _ => rfl) ho122 (fun a120 hi121 => ?_)
    refine lv_ifnonnull (tgt := 22) hx hb dX0_comeTo_6 (by decide) ?_
    exact w_X0_comeTo_22 hC hR ho o0 a0 x1 o2 a2 _ _ _ _ _ _ _ _ hi0 hi2 hw hc (lv_sub hl [0, 1, 2] rfl) h --j134
set_option maxHeartbeats 4000000 in
set_option maxRecDepth 100000 in
theorem k_X0_comeTo {l : Launch} {G : va_G} {cA : Nat → ClassId} {S S' : sh} {D D' : dt} {ad : Nat → Nat} (sz : Nat) {o0 a0 : Nat} {x1 : Int32} {o2 a2 : Nat} {r : Unit} (hi0 : Is S ad o0 a0 0) (hi2 : Is S ad o2 a2 4) (h : f_X0_comeTo o0 x1 o2 S D = some (r, S', D')) : CoA l yX0_comeTo (Cond.code yX0_comeTo cX0_comeTo 3 none :: tb0) 3 79 [.ref a0, .int x1, .ref a2] G cA S D ad sz (fun _ => none) True S' D' := by
  refine Met.ofW (cc := cX0_comeTo) (maxL := 3) (ret := none) (by decide) rfl ?_
  intro p e s m args below meth c s₁ B hml hv
  obtain ⟨rfl, hsz, hP, hK, hD0, hT, hX⟩ := hv
  subst hsz
  have hts := atoms_spec (ws := Cond.code yX0_comeTo cX0_comeTo 3 none :: tb0) B.pre
  have hC : Cx RX0 cX0_comeTo 3 none p s m _ meth c := ⟨B.exec, B.bytes, hml, findClass_of_methodNamed B.named, fun w q => hts w (List.mem_cons_of_mem _ q), B.returns, B.notSynchronized⟩
  have hw := Wd.entry hP hK hD0 hT hX
  have hl := lv_entry ([.ref a0, .int x1, .ref a2]) (n := 3) (Nat.le_of_ble_eq_true rfl)
  rw [lg_entry_eq]
  exact w_X0_comeTo_0 hC ⟨Nat.le_refl _, Nat.le_refl _⟩ ⟨rfl, rfl⟩ o0 a0 x1 o2 a2 S D ad _ _ _ 0 0 hi0 hi2 hw (Al.rf S ad) hl h
theorem mn_X0_goOnBothWays_81 {r : Int32} {S' : sh} {D' : dt} {S : sh} {D : dt} (h : f_X0_goOnBothWays_81 S D = some (r, S', D')) : Ext S S' := by
  unfold f_X0_goOnBothWays_81 at h
  cases h
  exact Ext.rf _
set_option maxHeartbeats 4000000 in
set_option maxRecDepth 100000 in
theorem w_X0_goOnBothWays_81 {r : Int32} {S' : sh} {D' : dt} {S0 : sh} {ad0 : Nat → Nat} (hC : Cx RX0 cX0_goOnBothWays 2 (some .int) p s m args meth c) (hR : 4 ≤ R.frames ∧ 101 ≤ R.locals) (ho : R.cells = sN S' - sN S0 ∧ R.slots = sZ S' - sZ S0) : ∀  (S : sh) (D : dt) (ad : Nat → Nat) (H : Heap) (locs : List Loc) (ls : Array Slot) (cells slots : Nat), Wd G cA S D ad A s H locs → Al S0 ad0 S ad cells slots → lv_has ls 2 [] → f_X0_goOnBothWays_81 S D = some (r, S', D') → W p l e R s m args below meth c H locs cells slots (MQ below (Qa (fun _ => (some (.int r))) (fun ad' => (∀ k, k < sN S0 → ad' k = ad0 k) ∧ True) (fun ad' => wpost G cA S' D' ad' A) A) args s (sN S' - sN S0) (sZ S' - sZ S0) A) (F0 m 81 ls []) := by
  obtain ⟨hx, hb, -⟩ := id hC
  intro S D ad H locs ls cells slots  hw hc hl h
  have hE : Ext S S' := mn_X0_goOnBothWays_81  h
  unfold f_X0_goOnBothWays_81 at h
  refine lv_iconst (v := 0) hx hb dX0_goOnBothWays_81 (by decide) ?_
  cases h
  exact r_iretA hC hw hc dX0_goOnBothWays_82
theorem mn_X0_goOnBothWays_61 {r : Int32} {S' : sh} {D' : dt} {o0 : Nat} {S : sh} {D : dt} (h : f_X0_goOnBothWays_61 o0 S D = some (r, S', D')) : Ext S S' := by
  unfold f_X0_goOnBothWays_61 at h
  rcases (Decidable.em ((gI D o0 10) = 0)) with c43 | c43
  · have h := i_yes c43 h
    exact (mn_X0_goOnBothWays_81 h)
  · have h := i_no c43 h
    obtain ⟨o45, ho48, h⟩ := rq_i h
    obtain ⟨_, S51, D50, hq49, h⟩ := c3_i h
    have hA := mn_X0_comeTo_0 hq49
    exact hA.tr (mn_X0_goOnBothWays_81 h)
set_option maxHeartbeats 4000000 in
set_option maxRecDepth 100000 in
theorem w_X0_goOnBothWays_61 {r : Int32} {S' : sh} {D' : dt} {S0 : sh} {ad0 : Nat → Nat} (hC : Cx RX0 cX0_goOnBothWays 2 (some .int) p s m args meth c) (hR : 4 ≤ R.frames ∧ 101 ≤ R.locals) (ho : R.cells = sN S' - sN S0 ∧ R.slots = sZ S' - sZ S0) : ∀ (o0 a0 : Nat) (S : sh) (D : dt) (ad : Nat → Nat) (H : Heap) (locs : List Loc) (ls : Array Slot) (cells slots : Nat), Is S ad o0 a0 0 → Wd G cA S D ad A s H locs → Al S0 ad0 S ad cells slots → lv_has ls 2 [(0, .ref a0)] → f_X0_goOnBothWays_61 o0 S D = some (r, S', D') → W p l e R s m args below meth c H locs cells slots (MQ below (Qa (fun _ => (some (.int r))) (fun ad' => (∀ k, k < sN S0 → ad' k = ad0 k) ∧ True) (fun ad' => wpost G cA S' D' ad' A) A) args s (sN S' - sN S0) (sZ S' - sZ S0) A) (F0 m 61 ls []) := by
  obtain ⟨hx, hb, -⟩ := id hC
  intro o0 a0 S D ad H locs ls cells slots hi0 hw hc hl h
  have hE : Ext S S' := mn_X0_goOnBothWays_61  h
  unfold f_X0_goOnBothWays_61 at h
  refine lv_aload_n hx hb dX0_goOnBothWays_61 rfl (lv_at hl 0 rfl) ?_
  refine r_gI hC hw kc_0 hi0 10 rfl lk_328 dX0_goOnBothWays_62 ?_
  refine lv_if_eq (tgt := 81) hx hb dX0_goOnBothWays_65 (by decide) (fun c43 => ?_) (fun c43 => ?_)
  · have h := i_yes c43 h
    exact w_X0_goOnBothWays_81 hC hR ho _ _ _ _ _ _ _ _ hw hc (lv_sub hl [] rfl) h --j44
  · have h := i_no c43 h
    refine lv_aload_n hx hb dX0_goOnBothWays_68 rfl (lv_at hl 0 rfl) ?_
    refine lv_aload_n hx hb dX0_goOnBothWays_69 rfl (lv_at hl 0 rfl) ?_
    refine r_gL hC hw kc_0 hi0 11 rfl lk_329 dX0_goOnBothWays_70 ?_
    refine lv_l2i (v := (gL D o0 11).toInt32) hx hb dX0_goOnBothWays_73 rfl ?_
    refine lv_aload_n hx hb dX0_goOnBothWays_74 rfl (lv_at hl 0 rfl) ?_
    obtain ⟨o45, ho48, h⟩ := rq_i h
    refine r_getR hC hw kc_0 hi0 5 rfl lk_322 dX0_goOnBothWays_75 rfl ho48 (fun a46 hi47 => ?_)
    obtain ⟨_, S51, D50, hq49, h⟩ := c3_i h
    have hE52 := mn_X0_comeTo_0 hq49
    have hE53 := mn_X0_goOnBothWays_81 h
    refine r_cVA [.int ((gL D o0 11).toInt32), .ref a46] [] hC hw kc_0 hi0 (k_X0_comeTo _ hi0 hi47 hq49) mk_X0_comeTo lk_839 ⟨Nat.le_trans (by decide) hR.1, Nat.le_trans (by decide) hR.2⟩ (hc.roomC ho hE52 hE53) rfl hl.1 rfl (Nat.le_of_ble_eq_true rfl) dX0_goOnBothWays_78 (fun ad54 hP H locs hw => ?_)
    refine W.eq (g2 := F0 m 81 ls []) rfl ?_
    have hi55 := Is.up hi0 hE52 hP.1
    have hc := hc.call hE52 hP.1
    exact w_X0_goOnBothWays_81 hC hR ho _ _ _ _ _ _ _ _ hw hc (lv_sub hl [] rfl) h --j56
theorem mn_X0_goOnBothWays_41 {r : Int32} {S' : sh} {D' : dt} {o0 : Nat} {S : sh} {D : dt} (h : f_X0_goOnBothWays_41 o0 S D = some (r, S', D')) : Ext S S' := by
  unfold f_X0_goOnBothWays_41 at h
  rcases (Decidable.em ((gI D o0 8) = 0)) with c57 | c57
  · have h := i_yes c57 h
    exact (mn_X0_goOnBothWays_61 h)
  · have h := i_no c57 h
    obtain ⟨o59, ho62, h⟩ := rq_i h
    obtain ⟨_, S65, D64, hq63, h⟩ := c3_i h
    have hA := mn_X0_comeTo_0 hq63
    exact hA.tr (mn_X0_goOnBothWays_61 h)
set_option maxHeartbeats 4000000 in
set_option maxRecDepth 100000 in
theorem w_X0_goOnBothWays_41 {r : Int32} {S' : sh} {D' : dt} {S0 : sh} {ad0 : Nat → Nat} (hC : Cx RX0 cX0_goOnBothWays 2 (some .int) p s m args meth c) (hR : 4 ≤ R.frames ∧ 101 ≤ R.locals) (ho : R.cells = sN S' - sN S0 ∧ R.slots = sZ S' - sZ S0) : ∀ (o0 a0 : Nat) (S : sh) (D : dt) (ad : Nat → Nat) (H : Heap) (locs : List Loc) (ls : Array Slot) (cells slots : Nat), Is S ad o0 a0 0 → Wd G cA S D ad A s H locs → Al S0 ad0 S ad cells slots → lv_has ls 2 [(0, .ref a0)] → f_X0_goOnBothWays_41 o0 S D = some (r, S', D') → W p l e R s m args below meth c H locs cells slots (MQ below (Qa (fun _ => (some (.int r))) (fun ad' => (∀ k, k < sN S0 → ad' k = ad0 k) ∧ True) (fun ad' => wpost G cA S' D' ad' A) A) args s (sN S' - sN S0) (sZ S' - sZ S0) A) (F0 m 41 ls []) := by
  obtain ⟨hx, hb, -⟩ := id hC
  intro o0 a0 S D ad H locs ls cells slots hi0 hw hc hl h
  have hE : Ext S S' := mn_X0_goOnBothWays_41  h
  unfold f_X0_goOnBothWays_41 at h
  refine lv_aload_n hx hb dX0_goOnBothWays_41 rfl (lv_at hl 0 rfl) ?_
  refine r_gI hC hw kc_0 hi0 8 rfl lk_326 dX0_goOnBothWays_42 ?_
  refine lv_if_eq (tgt := 61) hx hb dX0_goOnBothWays_45 (by decide) (fun c57 => ?_) (fun c57 => ?_)
  · have h := i_yes c57 h
    exact w_X0_goOnBothWays_61 hC hR ho o0 a0 _ _ _ _ _ _ _ _ hi0 hw hc (lv_sub hl [0] rfl) h --j58
  · have h := i_no c57 h
    refine lv_aload_n hx hb dX0_goOnBothWays_48 rfl (lv_at hl 0 rfl) ?_
    refine lv_aload_n hx hb dX0_goOnBothWays_49 rfl (lv_at hl 0 rfl) ?_
    refine r_gL hC hw kc_0 hi0 9 rfl lk_327 dX0_goOnBothWays_50 ?_
    refine lv_l2i (v := (gL D o0 9).toInt32) hx hb dX0_goOnBothWays_53 rfl ?_
    refine lv_aload_n hx hb dX0_goOnBothWays_54 rfl (lv_at hl 0 rfl) ?_
    obtain ⟨o59, ho62, h⟩ := rq_i h
    refine r_getR hC hw kc_0 hi0 4 rfl lk_321 dX0_goOnBothWays_55 rfl ho62 (fun a60 hi61 => ?_)
    obtain ⟨_, S65, D64, hq63, h⟩ := c3_i h
    have hE66 := mn_X0_comeTo_0 hq63
    have hE67 := mn_X0_goOnBothWays_61 h
    refine r_cVA [.int ((gL D o0 9).toInt32), .ref a60] [] hC hw kc_0 hi0 (k_X0_comeTo _ hi0 hi61 hq63) mk_X0_comeTo lk_839 ⟨Nat.le_trans (by decide) hR.1, Nat.le_trans (by decide) hR.2⟩ (hc.roomC ho hE66 hE67) rfl hl.1 rfl (Nat.le_of_ble_eq_true rfl) dX0_goOnBothWays_58 (fun ad68 hP H locs hw => ?_)
    refine W.eq (g2 := F0 m 61 ls []) rfl ?_
    have hi69 := Is.up hi0 hE66 hP.1
    have hc := hc.call hE66 hP.1
    exact w_X0_goOnBothWays_61 hC hR ho o0 a0 _ _ _ _ _ _ _ _ hi69 hw hc (lv_sub hl [0] rfl) h --j70
theorem mn_X0_goOnBothWays_19 {r : Int32} {S' : sh} {D' : dt} {o0 : Nat} {x1 : Int32} {S : sh} {D : dt} (h : f_X0_goOnBothWays_19 o0 x1 S D = some (r, S', D')) : Ext S S' := by
  unfold f_X0_goOnBothWays_19 at h
  rcases (Decidable.em ((gI D o0 10) = 0)) with c71 | c71
  · have h := i_yes c71 h
    exact (mn_X0_goOnBothWays_41 h)
  · have h := i_no c71 h
    obtain ⟨r74, D75, hq73, h⟩ := cq_i h
    rcases (Decidable.em (r74 = 0)).symm with c76 | c76
    · have h := i_no c76 h
      exact (mn_X0_goOnBothWays_41 h)
    · have h := i_yes c76 h
      cases h
      exact Ext.rf _
set_option maxHeartbeats 4000000 in
set_option maxRecDepth 100000 in
theorem w_X0_goOnBothWays_19 {r : Int32} {S' : sh} {D' : dt} {S0 : sh} {ad0 : Nat → Nat} (hC : Cx RX0 cX0_goOnBothWays 2 (some .int) p s m args meth c) (hR : 4 ≤ R.frames ∧ 101 ≤ R.locals) (ho : R.cells = sN S' - sN S0 ∧ R.slots = sZ S' - sZ S0) : ∀ (o0 a0 : Nat) (x1 : Int32) (S : sh) (D : dt) (ad : Nat → Nat) (H : Heap) (locs : List Loc) (ls : Array Slot) (cells slots : Nat), Is S ad o0 a0 0 → Wd G cA S D ad A s H locs → Al S0 ad0 S ad cells slots → lv_has ls 2 [(0, .ref a0), (1, .int x1)] → f_X0_goOnBothWays_19 o0 x1 S D = some (r, S', D') → W p l e R s m args below meth c H locs cells slots (MQ below (Qa (fun _ => (some (.int r))) (fun ad' => (∀ k, k < sN S0 → ad' k = ad0 k) ∧ True) (fun ad' => wpost G cA S' D' ad' A) A) args s (sN S' - sN S0) (sZ S' - sZ S0) A) (F0 m 19 ls []) := by
  obtain ⟨hx, hb, -⟩ := id hC
  intro o0 a0 x1 S D ad H locs ls cells slots hi0 hw hc hl h
  have hE : Ext S S' := mn_X0_goOnBothWays_19  h
  unfold f_X0_goOnBothWays_19 at h
  refine lv_aload_n hx hb dX0_goOnBothWays_19 rfl (lv_at hl 0 rfl) ?_
  refine r_gI hC hw kc_0 hi0 10 rfl lk_328 dX0_goOnBothWays_20 ?_
  refine lv_if_eq (tgt := 41) hx hb dX0_goOnBothWays_23 (by decide) (fun c71 => ?_) (fun c71 => ?_)
  · have h := i_yes c71 h
    exact w_X0_goOnBothWays_41 hC hR ho o0 a0 _ _ _ _ _ _ _ _ hi0 hw hc (lv_sub hl [0] rfl) h --j72
  · have h := i_no c71 h
    refine lv_aload_n hx hb dX0_goOnBothWays_26 rfl (lv_at hl 0 rfl) ?_
    refine lv_iload_n hx hb dX0_goOnBothWays_27 rfl (lv_at hl 1 rfl) ?_
    refine lv_aload_n hx hb dX0_goOnBothWays_28 rfl (lv_at hl 0 rfl) ?_
    refine r_gL hC hw kc_0 hi0 11 rfl lk_329 dX0_goOnBothWays_29 ?_
    obtain ⟨r74, D75, hq73, h⟩ := cq_i h
    refine r_cV (st' := [.int r74]) [.int x1, .long (gL D o0 11)] [] hC hw kc_0 hi0 (k_X0_canGoOn _ hi0 hq73) mk_X0_canGoOn lk_835 ⟨Nat.le_trans (by decide) hR.1, Nat.le_trans (by decide) hR.2⟩ (hc.le ho hE) rfl hl.1 rfl rfl (Nat.le_of_ble_eq_true rfl) dX0_goOnBothWays_32 (fun hP H locs hw => ?_)
    refine lv_if_ne (tgt := 41) hx hb dX0_goOnBothWays_35 (by decide) (fun c76 => ?_) (fun c76 => ?_)
    · have h := i_no c76 h
      exact w_X0_goOnBothWays_41 hC hR ho o0 a0 _ _ _ _ _ _ _ _ hi0 hw hc (lv_sub hl [0] rfl) h --j77
    · have h := i_yes c76 h
      refine lv_bipush (v := 6) hx hb dX0_goOnBothWays_38 (by decide) ?_
      cases h
      exact r_iretA hC hw hc dX0_goOnBothWays_40
theorem mn_X0_goOnBothWays_0 {r : Int32} {S' : sh} {D' : dt} {o0 : Nat} {x1 : Int32} {S : sh} {D : dt} (h : f_X0_goOnBothWays o0 x1 S D = some (r, S', D')) : Ext S S' := by
  unfold f_X0_goOnBothWays at h
  rcases (Decidable.em ((gI D o0 8) = 0)) with c78 | c78
  · have h := i_yes c78 h
    exact (mn_X0_goOnBothWays_19 h)
  · have h := i_no c78 h
    obtain ⟨r81, D82, hq80, h⟩ := cq_i h
    rcases (Decidable.em (r81 = 0)) with c83 | c83
    · have h := i_yes c83 h
      cases h
      exact Ext.rf _
    · have h := i_no c83 h
      exact (mn_X0_goOnBothWays_19 h)
set_option maxHeartbeats 4000000 in
set_option maxRecDepth 100000 in
theorem w_X0_goOnBothWays_0 {r : Int32} {S' : sh} {D' : dt} {S0 : sh} {ad0 : Nat → Nat} (hC : Cx RX0 cX0_goOnBothWays 2 (some .int) p s m args meth c) (hR : 4 ≤ R.frames ∧ 101 ≤ R.locals) (ho : R.cells = sN S' - sN S0 ∧ R.slots = sZ S' - sZ S0) : ∀ (o0 a0 : Nat) (x1 : Int32) (S : sh) (D : dt) (ad : Nat → Nat) (H : Heap) (locs : List Loc) (ls : Array Slot) (cells slots : Nat), Is S ad o0 a0 0 → Wd G cA S D ad A s H locs → Al S0 ad0 S ad cells slots → lv_has ls 2 [(0, .ref a0), (1, .int x1)] → f_X0_goOnBothWays o0 x1 S D = some (r, S', D') → W p l e R s m args below meth c H locs cells slots (MQ below (Qa (fun _ => (some (.int r))) (fun ad' => (∀ k, k < sN S0 → ad' k = ad0 k) ∧ True) (fun ad' => wpost G cA S' D' ad' A) A) args s (sN S' - sN S0) (sZ S' - sZ S0) A) (F0 m 0 ls []) := by
  obtain ⟨hx, hb, -⟩ := id hC
  intro o0 a0 x1 S D ad H locs ls cells slots hi0 hw hc hl h
  have hE : Ext S S' := mn_X0_goOnBothWays_0  h
  unfold f_X0_goOnBothWays at h
  refine lv_aload_n hx hb dX0_goOnBothWays_0 rfl (lv_at hl 0 rfl) ?_
  refine r_gI hC hw kc_0 hi0 8 rfl lk_326 dX0_goOnBothWays_1 ?_
  refine lv_if_eq (tgt := 19) hx hb dX0_goOnBothWays_4 (by decide) (fun c78 => ?_) (fun c78 => ?_)
  · have h := i_yes c78 h
    exact w_X0_goOnBothWays_19 hC hR ho o0 a0 x1 _ _ _ _ _ _ _ _ hi0 hw hc (lv_sub hl [0, 1] rfl) h --j79
  · have h := i_no c78 h
    refine lv_aload_n hx hb dX0_goOnBothWays_7 rfl (lv_at hl 0 rfl) ?_
    refine lv_iload_n hx hb dX0_goOnBothWays_8 rfl (lv_at hl 1 rfl) ?_
    refine lv_aload_n hx hb dX0_goOnBothWays_9 rfl (lv_at hl 0 rfl) ?_
    refine r_gL hC hw kc_0 hi0 9 rfl lk_327 dX0_goOnBothWays_10 ?_
    obtain ⟨r81, D82, hq80, h⟩ := cq_i h
    refine r_cV (st' := [.int r81]) [.int x1, .long (gL D o0 9)] [] hC hw kc_0 hi0 (k_X0_canGoOn _ hi0 hq80) mk_X0_canGoOn lk_835 ⟨Nat.le_trans (by decide) hR.1, Nat.le_trans (by decide) hR.2⟩ (hc.le ho hE) rfl hl.1 rfl rfl (Nat.le_of_ble_eq_true rfl) dX0_goOnBothWays_13 (fun hP H locs hw => ?_)
    refine lv_if_eq (tgt := 38) hx hb dX0_goOnBothWays_16 (by decide) (fun c83 => ?_) (fun c83 => ?_)
    · have h := i_yes c83 h
      refine lv_bipush (v := 6) hx hb dX0_goOnBothWays_38 (by decide) ?_
      cases h
      exact r_iretA hC hw hc dX0_goOnBothWays_40
    · have h := i_no c83 h
      exact w_X0_goOnBothWays_19 hC hR ho o0 a0 x1 _ _ _ _ _ _ _ _ hi0 hw hc (lv_sub hl [0, 1] rfl) h --j84
set_option maxHeartbeats 4000000 in
set_option maxRecDepth 100000 in
theorem k_X0_goOnBothWays {l : Launch} {G : va_G} {cA : Nat → ClassId} {S S' : sh} {D D' : dt} {ad : Nat → Nat} (sz : Nat) {o0 a0 : Nat} {x1 : Int32} {r : Int32} (hi0 : Is S ad o0 a0 0) (h : f_X0_goOnBothWays o0 x1 S D = some (r, S', D')) : CoA l yX0_goOnBothWays (Cond.code yX0_goOnBothWays cX0_goOnBothWays 2 (some .int) :: tb0) 4 101 [.ref a0, .int x1] G cA S D ad sz (fun _ => (some (.int r))) True S' D' := by
  refine Met.ofW (cc := cX0_goOnBothWays) (maxL := 2) (ret := (some .int)) (by decide) rfl ?_
  intro p e s m args below meth c s₁ B hml hv
  obtain ⟨rfl, hsz, hP, hK, hD0, hT, hX⟩ := hv
  subst hsz
  have hts := atoms_spec (ws := Cond.code yX0_goOnBothWays cX0_goOnBothWays 2 (some .int) :: tb0) B.pre
  have hC : Cx RX0 cX0_goOnBothWays 2 (some .int) p s m _ meth c := ⟨B.exec, B.bytes, hml, findClass_of_methodNamed B.named, fun w q => hts w (List.mem_cons_of_mem _ q), B.returns, B.notSynchronized⟩
  have hw := Wd.entry hP hK hD0 hT hX
  have hl := lv_entry ([.ref a0, .int x1]) (n := 2) (Nat.le_of_ble_eq_true rfl)
  rw [lg_entry_eq]
  exact w_X0_goOnBothWays_0 hC ⟨Nat.le_refl _, Nat.le_refl _⟩ ⟨rfl, rfl⟩ o0 a0 x1 S D ad _ _ _ 0 0 hi0 hw (Al.rf S ad) hl h
theorem mn_X0_follow_125 {r : Int32} {S' : sh} {D' : dt} {k79 : Nat → Int32 → sh → dt → Option (Int32 × sh × dt)} (hk79 : ∀ (o0 : Nat) (x1 : Int32) (S : sh) (D : dt), k79 o0 x1 S D = some (r, S', D') → Ext S S') {o0 : Nat} {x1 : Int32} {x3 : Int32} {S : sh} {D : dt} (h : f_X0_follow_125 k79 o0 x1 x3 S D = some (r, S', D')) : Ext S S' := by
  unfold f_X0_follow_125 at h
  rcases (Decidable.em (x3 = 0)) with c139 | c139
  · have h := i_yes c139 h
    have h := nm_i h _ rfl
    exact (hk79 _ _ _ _ h)
  · have h := i_no c139 h
    have h := nm_i h _ rfl
    cases h
    exact Ext.rf _
set_option maxHeartbeats 4000000 in
set_option maxRecDepth 100000 in
theorem w_X0_follow_125 {r : Int32} {S' : sh} {D' : dt} {S0 : sh} {ad0 : Nat → Nat} (hC : Cx RX0 cX0_follow 4 (some .int) p s m args meth c) (hR : 6 ≤ R.frames ∧ 164 ≤ R.locals) (ho : R.cells = sN S' - sN S0 ∧ R.slots = sZ S' - sZ S0) {k79 : Nat → Int32 → sh → dt → Option (Int32 × sh × dt)} (hk79 : ∀ (o0 a0 : Nat) (x1 : Int32) (S : sh) (D : dt) (ad : Nat → Nat) (H : Heap) (locs : List Loc) (ls : Array Slot) (cells slots : Nat), Is S ad o0 a0 0 → Wd G cA S D ad A s H locs → Al S0 ad0 S ad cells slots → lv_has ls 4 [(0, .ref a0), (1, .int x1)] → k79 o0 x1 S D = some (r, S', D') → W p l e R s m args below meth c H locs cells slots (MQ below (Qa (fun _ => (some (.int r))) (fun ad' => (∀ k, k < sN S0 → ad' k = ad0 k) ∧ True) (fun ad' => wpost G cA S' D' ad' A) A) args s (sN S' - sN S0) (sZ S' - sZ S0) A) (F0 m 79 ls [])) (hm79 : ∀ (o0 : Nat) (x1 : Int32) (S : sh) (D : dt), k79 o0 x1 S D = some (r, S', D') → Ext S S') : ∀ (o0 a0 : Nat) (x1 : Int32) (x3 : Int32) (S : sh) (D : dt) (ad : Nat → Nat) (H : Heap) (locs : List Loc) (ls : Array Slot) (cells slots : Nat), Is S ad o0 a0 0 → Wd G cA S D ad A s H locs → Al S0 ad0 S ad cells slots → lv_has ls 4 [(0, .ref a0), (1, .int x1), (3, .int x3)] → f_X0_follow_125 k79 o0 x1 x3 S D = some (r, S', D') → W p l e R s m args below meth c H locs cells slots (MQ below (Qa (fun _ => (some (.int r))) (fun ad' => (∀ k, k < sN S0 → ad' k = ad0 k) ∧ True) (fun ad' => wpost G cA S' D' ad' A) A) args s (sN S' - sN S0) (sZ S' - sZ S0) A) (F0 m 125 ls []) := by
  obtain ⟨hx, hb, -⟩ := id hC
  intro o0 a0 x1 x3 S D ad H locs ls cells slots hi0 hw hc hl h
  have hE : Ext S S' := mn_X0_follow_125 hm79 h
  unfold f_X0_follow_125 at h
  refine lv_iload_n hx hb dX0_follow_125 rfl (lv_at hl 2 rfl) ?_
  refine lv_if_eq (tgt := 136) hx hb dX0_follow_126 (by decide) (fun c139 => ?_) (fun c139 => ?_)
  · have h := i_yes c139 h
    obtain ⟨y140, ey140⟩ : ∃ z : Int32, z = x1 + 1 := ⟨_, rfl⟩
    have h := nm_i h y140 ey140
    refine lv_iinc (v := y140) (lv' := [(1, .int y140), (0, .ref a0), (3, .int x3)]) hx hb dX0_follow_136 hl (k := 1) rfl (by rw [ey140]; rfl) (by decide) rfl (fun ls hl => ?_)
    refine lv_goto (tgt := 79) hx hb dX0_follow_139 (by decide) ?_
    exact hk79 o0 a0 y140 _ _ _ _ _ _ _ _ hi0 hw hc (lv_sub hl [1, 0] rfl) h --j141
  · have h := i_no c139 h
    refine lv_aload_n hx hb dX0_follow_129 rfl (lv_at hl 0 rfl) ?_
    refine lv_iload_n hx hb dX0_follow_130 rfl (lv_at hl 1 rfl) ?_
    refine r_pI hC hw kc_0 hi0 7 rfl lk_324 rfl rfl rfl dX0_follow_131 (fun D142 eD142 H locs hw => ?_)
    have h := nm_i h D142 eD142
    refine lv_iload_n hx hb dX0_follow_134 rfl (lv_at hl 2 rfl) ?_
    cases h
    exact r_iretA hC hw hc dX0_follow_135
theorem mn_X0_follow_124 {r : Int32} {S' : sh} {D' : dt} {k79 : Nat → Int32 → sh → dt → Option (Int32 × sh × dt)} (hk79 : ∀ (o0 : Nat) (x1 : Int32) (S : sh) (D : dt), k79 o0 x1 S D = some (r, S', D') → Ext S S') {o0 : Nat} {x1 : Int32} {xs0 : Int32} {S : sh} {D : dt} (h : f_X0_follow_124 k79 o0 x1 xs0 S D = some (r, S', D')) : Ext S S' := by
  unfold f_X0_follow_124 at h
  exact (mn_X0_follow_125 hk79 h)
set_option maxHeartbeats 4000000 in
set_option maxRecDepth 100000 in
theorem w_X0_follow_124 {r : Int32} {S' : sh} {D' : dt} {S0 : sh} {ad0 : Nat → Nat} (hC : Cx RX0 cX0_follow 4 (some .int) p s m args meth c) (hR : 6 ≤ R.frames ∧ 164 ≤ R.locals) (ho : R.cells = sN S' - sN S0 ∧ R.slots = sZ S' - sZ S0) {k79 : Nat → Int32 → sh → dt → Option (Int32 × sh × dt)} (hk79 : ∀ (o0 a0 : Nat) (x1 : Int32) (S : sh) (D : dt) (ad : Nat → Nat) (H : Heap) (locs : List Loc) (ls : Array Slot) (cells slots : Nat), Is S ad o0 a0 0 → Wd G cA S D ad A s H locs → Al S0 ad0 S ad cells slots → lv_has ls 4 [(0, .ref a0), (1, .int x1)] → k79 o0 x1 S D = some (r, S', D') → W p l e R s m args below meth c H locs cells slots (MQ below (Qa (fun _ => (some (.int r))) (fun ad' => (∀ k, k < sN S0 → ad' k = ad0 k) ∧ True) (fun ad' => wpost G cA S' D' ad' A) A) args s (sN S' - sN S0) (sZ S' - sZ S0) A) (F0 m 79 ls [])) (hm79 : ∀ (o0 : Nat) (x1 : Int32) (S : sh) (D : dt), k79 o0 x1 S D = some (r, S', D') → Ext S S') : ∀ (o0 a0 : Nat) (x1 : Int32) (xs0 : Int32) (S : sh) (D : dt) (ad : Nat → Nat) (H : Heap) (locs : List Loc) (ls : Array Slot) (cells slots : Nat), Is S ad o0 a0 0 → Wd G cA S D ad A s H locs → Al S0 ad0 S ad cells slots → lv_has ls 4 [(0, .ref a0), (1, .int x1)] → f_X0_follow_124 k79 o0 x1 xs0 S D = some (r, S', D') → W p l e R s m args below meth c H locs cells slots (MQ below (Qa (fun _ => (some (.int r))) (fun ad' => (∀ k, k < sN S0 → ad' k = ad0 k) ∧ True) (fun ad' => wpost G cA S' D' ad' A) A) args s (sN S' - sN S0) (sZ S' - sZ S0) A) (F0 m 124 ls [.int xs0]) := by
  obtain ⟨hx, hb, -⟩ := id hC
  intro o0 a0 x1 xs0 S D ad H locs ls cells slots hi0 hw hc hl h
  have hE : Ext S S' := mn_X0_follow_124 hm79 h
  unfold f_X0_follow_124 at h
  refine lv_istore_n (lv' := [(3, .int xs0), (0, .ref a0), (1, .int x1)]) hx hb dX0_follow_124 rfl hl (by decide) rfl (fun ls hl => ?_)
  exact w_X0_follow_125 hC hR ho hk79 hm79 o0 a0 x1 xs0 _ _ _ _ _ _ _ _ hi0 hw hc (lv_sub hl [1, 2, 0] rfl) h --j143
theorem mn_X0_follow_110 {r : Int32} {S' : sh} {D' : dt} {k79 : Nat → Int32 → sh → dt → Option (Int32 × sh × dt)} (hk79 : ∀ (o0 : Nat) (x1 : Int32) (S : sh) (D : dt), k79 o0 x1 S D = some (r, S', D') → Ext S S') {o0 : Nat} {x1 : Int32} {o2 : Option Nat} {xs0 : Int32} {S : sh} {D : dt} (h : f_X0_follow_110 k79 o0 x1 o2 xs0 S D = some (r, S', D')) : Ext S S' := by
  unfold f_X0_follow_110 at h
  cases o2 with
  | none =>
    have h := oqN h
    rcases (Decidable.em (xs0 = 0)).symm with c144 | c144
    · have h := i_no c144 h
      exact (mn_X0_follow_125 hk79 h)
    · have h := i_yes c144 h
      exact (mn_X0_follow_125 hk79 h)
  | some o2 =>
    have h := oqS h
    rcases (Decidable.em (xs0 = 0)).symm with c147 | c147
    · have h := i_no c147 h
      exact (mn_X0_follow_125 hk79 h)
    · have h := i_yes c147 h
      obtain ⟨r150, S152, D151, hq149, h⟩ := c3_i h
      have hA := mn_X0_goOnBothWays_0 hq149
      exact hA.tr (mn_X0_follow_124 hk79 h)
set_option maxHeartbeats 4000000 in
set_option maxRecDepth 100000 in
theorem w_X0_follow_110 {r : Int32} {S' : sh} {D' : dt} {S0 : sh} {ad0 : Nat → Nat} (hC : Cx RX0 cX0_follow 4 (some .int) p s m args meth c) (hR : 6 ≤ R.frames ∧ 164 ≤ R.locals) (ho : R.cells = sN S' - sN S0 ∧ R.slots = sZ S' - sZ S0) {k79 : Nat → Int32 → sh → dt → Option (Int32 × sh × dt)} (hk79 : ∀ (o0 a0 : Nat) (x1 : Int32) (S : sh) (D : dt) (ad : Nat → Nat) (H : Heap) (locs : List Loc) (ls : Array Slot) (cells slots : Nat), Is S ad o0 a0 0 → Wd G cA S D ad A s H locs → Al S0 ad0 S ad cells slots → lv_has ls 4 [(0, .ref a0), (1, .int x1)] → k79 o0 x1 S D = some (r, S', D') → W p l e R s m args below meth c H locs cells slots (MQ below (Qa (fun _ => (some (.int r))) (fun ad' => (∀ k, k < sN S0 → ad' k = ad0 k) ∧ True) (fun ad' => wpost G cA S' D' ad' A) A) args s (sN S' - sN S0) (sZ S' - sZ S0) A) (F0 m 79 ls [])) (hm79 : ∀ (o0 : Nat) (x1 : Int32) (S : sh) (D : dt), k79 o0 x1 S D = some (r, S', D') → Ext S S') : ∀ (o0 a0 : Nat) (x1 : Int32) (o2 : Option Nat) (xs0 : Int32) (S : sh) (D : dt) (ad : Nat → Nat) (H : Heap) (locs : List Loc) (ls : Array Slot) (cells slots : Nat), Is S ad o0 a0 0 → (∀ z, o2 = some z → z < sN S ∧ sK S z = 4) → Wd G cA S D ad A s H locs → Al S0 ad0 S ad cells slots → lv_has ls 4 [(0, .ref a0), (1, .int x1), (2, va_rf (o2.map ad))] → f_X0_follow_110 k79 o0 x1 o2 xs0 S D = some (r, S', D') → W p l e R s m args below meth c H locs cells slots (MQ below (Qa (fun _ => (some (.int r))) (fun ad' => (∀ k, k < sN S0 → ad' k = ad0 k) ∧ True) (fun ad' => wpost G cA S' D' ad' A) A) args s (sN S' - sN S0) (sZ S' - sZ S0) A) (F0 m 110 ls [.int xs0]) := by
  obtain ⟨hx, hb, -⟩ := id hC
  intro o0 a0 x1 o2 xs0 S D ad H locs ls cells slots hi0 hi2 hw hc hl h
  have hE : Ext S S' := mn_X0_follow_110 hm79 h
  unfold f_X0_follow_110 at h
  cases o2 with
  | none =>
    have h := oqN h
    have hl : lv_has ls 4 [(0, .ref a0), (1, .int x1), (2, .null)] := hl
    refine lv_istore_n (lv' := [(3, .int xs0), (0, .ref a0), (1, .int x1), (2, .null)]) hx hb dX0_follow_110 rfl hl (by decide) rfl (fun ls hl => ?_)
    refine lv_iload_n hx hb dX0_follow_111 rfl (lv_at hl 0 rfl) ?_
    refine lv_if_ne (tgt := 125) hx hb dX0_follow_112 (by decide) (fun c144 => ?_) (fun c144 => ?_)
    · have h := i_no c144 h
      exact w_X0_follow_125 hC hR ho hk79 hm79 o0 a0 x1 xs0 _ _ _ _ _ _ _ _ hi0 hw hc (lv_sub hl [1, 2, 0] rfl) h --j145
    · have h := i_yes c144 h
      refine lv_aload_nN hx hb dX0_follow_115 rfl (lv_at hl 3 rfl) ?_
      refine lv_ifnullN (tgt := 125) hx hb dX0_follow_116 (by decide) ?_
      exact w_X0_follow_125 hC hR ho hk79 hm79 o0 a0 x1 xs0 _ _ _ _ _ _ _ _ hi0 hw hc (lv_sub hl [1, 2, 0] rfl) h --j146
  | some o2 =>
    have h := oqS h
    have hi2 : Is S ad o2 (ad o2) 4 := ⟨(hi2 o2 rfl).1, (hi2 o2 rfl).2, rfl⟩
    have hl : lv_has ls 4 [(0, .ref a0), (1, .int x1), (2, .ref (ad o2))] := hl
    refine lv_istore_n (lv' := [(3, .int xs0), (0, .ref a0), (1, .int x1), (2, .ref (ad o2))]) hx hb dX0_follow_110 rfl hl (by decide) rfl (fun ls hl => ?_)
    refine lv_iload_n hx hb dX0_follow_111 rfl (lv_at hl 0 rfl) ?_
    refine lv_if_ne (tgt := 125) hx hb dX0_follow_112 (by decide) (fun c147 => ?_) (fun c147 => ?_)
    · have h := i_no c147 h
      exact w_X0_follow_125 hC hR ho hk79 hm79 o0 a0 x1 xs0 _ _ _ _ _ _ _ _ hi0 hw hc (lv_sub hl [1, 2, 0] rfl) h --j148
    · have h := i_yes c147 h
      refine lv_aload_n hx hb dX0_follow_115 rfl (lv_at hl 3 rfl) ?_
      refine lv_ifnull hx hb dX0_follow_116 ?_
      refine lv_aload_n hx hb dX0_follow_119 rfl (lv_at hl 1 rfl) ?_
      refine lv_iload_n hx hb dX0_follow_120 rfl (lv_at hl 2 rfl) ?_
      obtain ⟨r150, S152, D151, hq149, h⟩ := c3_i h
      have hE153 := mn_X0_goOnBothWays_0 hq149
      have hE154 := mn_X0_follow_124 hm79 h
      refine r_cVA [.int x1] [] hC hw kc_0 hi0 (k_X0_goOnBothWays _ hi0 hq149) mk_X0_goOnBothWays lk_831 ⟨Nat.le_trans (by decide) hR.1, Nat.le_trans (by decide) hR.2⟩ (hc.roomC ho hE153 hE154) rfl hl.1 rfl (Nat.le_of_ble_eq_true rfl) dX0_follow_121 (fun ad155 hP H locs hw => ?_)
      refine W.eq (g2 := F0 m 124 ls [.int r150]) rfl ?_
      have hi156 := Is.up hi0 hE153 hP.1
      have hi157 := Is.up hi2 hE153 hP.1
      have hc := hc.call hE153 hP.1
      exact w_X0_follow_124 hC hR ho hk79 hm79 o0 a0 x1 r150 _ _ _ _ _ _ _ _ hi156 hw hc (lv_sub hl [1, 2] rfl) h --j158
theorem mn_X0_follow_79 {r : Int32} {S' : sh} {D' : dt} : ∀ (n : Nat) (o0 : Nat) (x1 : Int32) (S : sh) (D : dt), f_X0_follow_79 n o0 x1 S D = some (r, S', D') → Ext S S' := by
  intro n
  induction n with
  | zero =>
    intro o0 x1 S D h
    rw [f_X0_follow_79.eq_1] at h
    cases h
  | succ n ih =>
    intro o0 x1 S D h
    rw [f_X0_follow_79.eq_2] at h
    obtain ⟨o159, ho162, h⟩ := rq_i h
    rcases (Decidable.em ((gI D o159 5) ≤ x1)) with c163 | c163
    · have h := i_yes c163 h
      cases h
      exact Ext.rf _
    · have h := i_no c163 h
      obtain ⟨r165, D166, hq164, h⟩ := cq_i h
      cases r165 with
      | none =>
        have h := oqN h
        exact (mn_X0_follow_110 ih h)
      | some o167 =>
        have h := oqS h
        obtain ⟨r171, D172, hq170, h⟩ := cq_i h
        exact (mn_X0_follow_110 ih h)
set_option maxHeartbeats 4000000 in
set_option maxRecDepth 100000 in
theorem w_X0_follow_79 {r : Int32} {S' : sh} {D' : dt} {S0 : sh} {ad0 : Nat → Nat} (hC : Cx RX0 cX0_follow 4 (some .int) p s m args meth c) (hR : 6 ≤ R.frames ∧ 164 ≤ R.locals) (ho : R.cells = sN S' - sN S0 ∧ R.slots = sZ S' - sZ S0) : ∀ (n : Nat), ∀ (o0 a0 : Nat) (x1 : Int32) (S : sh) (D : dt) (ad : Nat → Nat) (H : Heap) (locs : List Loc) (ls : Array Slot) (cells slots : Nat), Is S ad o0 a0 0 → Wd G cA S D ad A s H locs → Al S0 ad0 S ad cells slots → lv_has ls 4 [(0, .ref a0), (1, .int x1)] → f_X0_follow_79 n o0 x1 S D = some (r, S', D') → W p l e R s m args below meth c H locs cells slots (MQ below (Qa (fun _ => (some (.int r))) (fun ad' => (∀ k, k < sN S0 → ad' k = ad0 k) ∧ True) (fun ad' => wpost G cA S' D' ad' A) A) args s (sN S' - sN S0) (sZ S' - sZ S0) A) (F0 m 79 ls []) := by
  obtain ⟨hx, hb, -⟩ := id hC
  intro n
  induction n with
  | zero =>
    intro o0 a0 x1 S D ad H locs ls cells slots hi0 hw hc hl h
    rw [f_X0_follow_79.eq_1] at h
    cases h
  | succ n ih =>
    intro o0 a0 x1 S D ad H locs ls cells slots hi0 hw hc hl h
    have hE : Ext S S' := mn_X0_follow_79  (n + 1) _ _ _ _ h
    rw [f_X0_follow_79.eq_2] at h
    refine lv_iload_n hx hb dX0_follow_79 rfl (lv_at hl 1 rfl) ?_
    refine lv_aload_n hx hb dX0_follow_80 rfl (lv_at hl 0 rfl) ?_
    obtain ⟨o159, ho162, h⟩ := rq_i h
    refine r_getR hC hw kc_0 hi0 0 rfl lk_317 dX0_follow_81 rfl ho162 (fun a160 hi161 => ?_)
    refine r_gI hC hw kc_3 hi161 5 rfl lk_158 dX0_follow_84 ?_
    refine lv_icmp_ge (tgt := 142) hx hb dX0_follow_87 (by decide) (fun c163 => ?_) (fun c163 => ?_)
    · have h := i_yes c163 h
      refine lv_iconst (v := 0) hx hb dX0_follow_142 (by decide) ?_
      cases h
      exact r_iretA hC hw hc dX0_follow_143
    · have h := i_no c163 h
      refine lv_aload_n hx hb dX0_follow_90 rfl (lv_at hl 0 rfl) ?_
      refine lv_iload_n hx hb dX0_follow_91 rfl (lv_at hl 1 rfl) ?_
      obtain ⟨r165, D166, hq164, h⟩ := cq_i h
      refine r_cV (st' := [va_rf (r165.map ad)]) [.int x1] [] hC hw kc_0 hi0 (k_X0_sceneAt _ hi0 hq164) mk_X0_sceneAt lk_490 ⟨Nat.le_trans (by decide) hR.1, Nat.le_trans (by decide) hR.2⟩ (hc.le ho hE) rfl hl.1 rfl rfl (Nat.le_of_ble_eq_true rfl) dX0_follow_92 (fun hP H locs hw => ?_)
      cases r165 with
      | none =>
        have h := oqN h
        refine W.eq (g2 := F0 m 95 ls [.null]) rfl ?_
        refine lv_astore_nN (lv' := [(2, .null), (0, .ref a0), (1, .int x1)]) hx hb dX0_follow_95 rfl hl (by decide) rfl (fun ls hl => ?_)
        refine lv_aload_nN hx hb dX0_follow_96 rfl (lv_at hl 0 rfl) ?_
        refine lv_ifnonnullN hx hb dX0_follow_97 ?_
        refine lv_iconst (v := 0) hx hb dX0_follow_100 (by decide) ?_
        refine lv_goto (tgt := 110) hx hb dX0_follow_101 (by decide) ?_
        exact w_X0_follow_110 hC hR ho ih (mn_X0_follow_79 n) o0 a0 x1 none (0 : Int32) _ _ _ _ _ _ _ _ hi0 (fun _ q => nomatch q) hw hc (lv_sub hl [1, 2, 0] rfl) h --j169
      | some o167 =>
        have h := oqS h
        have hi168 : Is S ad o167 (ad o167) 4 := ⟨(hP o167 rfl).1, (hP o167 rfl).2, rfl⟩
        refine W.eq (g2 := F0 m 95 ls [.ref (ad o167)]) rfl ?_
        refine lv_astore_n (lv' := [(2, .ref (ad o167)), (0, .ref a0), (1, .int x1)]) hx hb dX0_follow_95 rfl hl (by decide) rfl (fun ls hl => ?_)
        refine lv_aload_n hx hb dX0_follow_96 rfl (lv_at hl 0 rfl) ?_
        refine lv_ifnonnull (tgt := 104) hx hb dX0_follow_97 (by decide) ?_
        refine lv_aload_n hx hb dX0_follow_104 rfl (lv_at hl 1 rfl) ?_
        refine lv_iload_n hx hb dX0_follow_105 rfl (lv_at hl 2 rfl) ?_
        refine lv_aload_n hx hb dX0_follow_106 rfl (lv_at hl 0 rfl) ?_
        obtain ⟨r171, D172, hq170, h⟩ := cq_i h
        refine r_cV (st' := [.int r171]) [.int x1, .ref (ad o167)] [] hC hw kc_0 hi0 (k_X0_judgeSlot _ hi0 hi168 hq170) mk_X0_judgeSlot lk_494 ⟨Nat.le_trans (by decide) hR.1, Nat.le_trans (by decide) hR.2⟩ (hc.le ho hE) rfl hl.1 rfl rfl (Nat.le_of_ble_eq_true rfl) dX0_follow_107 (fun hP H locs hw => ?_)
        exact w_X0_follow_110 hC hR ho ih (mn_X0_follow_79 n) o0 a0 x1 (some o167) r171 _ _ _ _ _ _ _ _ hi0 (fun z q => by cases q; exact ⟨hi168.1, hi168.2.1⟩) hw hc (lv_sub hl [1, 2, 0] rfl) h --j173
theorem mn_X0_follow_63 {r : Int32} {S' : sh} {D' : dt} {o0 : Nat} {os0 : Nat} {xs1 : Int32} {os2 : Option Nat} {S : sh} {D : dt} (h : f_X0_follow_63 o0 os0 xs1 os2 S D = some (r, S', D')) : Ext S S' := by
  unfold f_X0_follow_63 at h
  cases os2 with
  | none =>
    have h := oqN h
    obtain ⟨hn174, h⟩ := ix_i h
    have h := nm_i h _ rfl
    obtain ⟨o176, ho179, h⟩ := rq_i h
    obtain ⟨hn180, h⟩ := ix_i h
    rcases oq_i h with ⟨ho184, h⟩ | ⟨o181, ho184, h⟩
    · skip
      obtain ⟨o185, ho188, h⟩ := rq_i h
      cases h
    · skip
      obtain ⟨o189, ho192, h⟩ := rq_i h
      obtain ⟨_, D194, hq193, h⟩ := cq_i h
      have h := nm_i h _ rfl
      exact (mn_X0_follow_79 LF _ _ _ _ h)
  | some os2 =>
    have h := oqS h
    obtain ⟨hn197, h⟩ := ix_i h
    have h := nm_i h _ rfl
    obtain ⟨o199, ho202, h⟩ := rq_i h
    obtain ⟨hn203, h⟩ := ix_i h
    rcases oq_i h with ⟨ho207, h⟩ | ⟨o204, ho207, h⟩
    · skip
      obtain ⟨o208, ho211, h⟩ := rq_i h
      cases h
    · skip
      obtain ⟨o212, ho215, h⟩ := rq_i h
      obtain ⟨_, D217, hq216, h⟩ := cq_i h
      have h := nm_i h _ rfl
      exact (mn_X0_follow_79 LF _ _ _ _ h)
set_option maxHeartbeats 4000000 in
set_option maxRecDepth 100000 in
theorem w_X0_follow_63 {r : Int32} {S' : sh} {D' : dt} {S0 : sh} {ad0 : Nat → Nat} (hC : Cx RX0 cX0_follow 4 (some .int) p s m args meth c) (hR : 6 ≤ R.frames ∧ 164 ≤ R.locals) (ho : R.cells = sN S' - sN S0 ∧ R.slots = sZ S' - sZ S0) : ∀ (o0 a0 : Nat) (os0 as0 : Nat) (xs1 : Int32) (os2 : Option Nat) (S : sh) (D : dt) (ad : Nat → Nat) (H : Heap) (locs : List Loc) (ls : Array Slot) (cells slots : Nat), Is S ad o0 a0 0 → Is S ad os0 as0 204 → (∀ z, os2 = some z → z < sN S ∧ sK S z = 4) → Wd G cA S D ad A s H locs → Al S0 ad0 S ad cells slots → lv_has ls 4 [(0, .ref a0)] → f_X0_follow_63 o0 os0 xs1 os2 S D = some (r, S', D') → W p l e R s m args below meth c H locs cells slots (MQ below (Qa (fun _ => (some (.int r))) (fun ad' => (∀ k, k < sN S0 → ad' k = ad0 k) ∧ True) (fun ad' => wpost G cA S' D' ad' A) A) args s (sN S' - sN S0) (sZ S' - sZ S0) A) (F0 m 63 ls [va_rf (os2.map ad), .int xs1, .ref as0]) := by
  obtain ⟨hx, hb, -⟩ := id hC
  intro o0 a0 os0 as0 xs1 os2 S D ad H locs ls cells slots hi0 his0 his2 hw hc hl h
  have hE : Ext S S' := mn_X0_follow_63  h
  unfold f_X0_follow_63 at h
  cases os2 with
  | none =>
    have h := oqN h
    have hl : lv_has ls 4 [(0, .ref a0)] := hl
    obtain ⟨hn174, h⟩ := ix_i h
    refine r_aasN hC hw his0 (by decide) 4 rfl hn174 dX0_follow_63 (fun D175 eD175 H locs hw => ?_)
    have h := nm_i h D175 eD175
    refine lv_aload_n hx hb dX0_follow_64 rfl (lv_at hl 0 rfl) ?_
    obtain ⟨o176, ho179, h⟩ := rq_i h
    refine r_getR hC hw kc_0 hi0 2 rfl lk_319 dX0_follow_65 rfl ho179 (fun a177 hi178 => ?_)
    refine lv_iconst (v := 0) hx hb dX0_follow_68 (by decide) ?_
    obtain ⟨hn180, h⟩ := ix_i h
    rcases oq_i h with ⟨ho184, h⟩ | ⟨o181, ho184, h⟩
    · refine r_aaldN hC hw hi178 (by decide) 4 rfl hn180 dX0_follow_69 ho184 ?_
      refine lv_aload_n hx hb dX0_follow_70 rfl (lv_at hl 0 rfl) ?_
      obtain ⟨o185, ho188, h⟩ := rq_i h
      refine r_getR hC hw kc_0 hi0 4 rfl lk_321 dX0_follow_71 rfl ho188 (fun a186 hi187 => ?_)
      cases h
    · refine r_aald hC hw hi178 (by decide) 4 rfl hn180 dX0_follow_69 (fun _ => rfl) ho184 (fun a182 hi183 => ?_)
      refine lv_aload_n hx hb dX0_follow_70 rfl (lv_at hl 0 rfl) ?_
      obtain ⟨o189, ho192, h⟩ := rq_i h
      refine r_getR hC hw kc_0 hi0 4 rfl lk_321 dX0_follow_71 rfl ho192 (fun a190 hi191 => ?_)
      obtain ⟨_, D194, hq193, h⟩ := cq_i h
      refine r_cV (st' := []) [.ref a190] [] hC hw kc_4 hi183 (k_X5_copyFrom _ hi183 hi191 hq193) mk_X5_copyFrom lk_483 ⟨Nat.le_trans (by decide) hR.1, Nat.le_trans (by decide) hR.2⟩ (hc.le ho hE) rfl hl.1 rfl rfl (Nat.le_of_ble_eq_true rfl) dX0_follow_74 (fun hP H locs hw => ?_)
      refine lv_iconst (v := 0) hx hb dX0_follow_77 (by decide) ?_
      refine lv_topi (fun y195 ey195 => ?_)
      have h := nm_i h y195 ey195
      refine lv_istore_n (lv' := [(1, .int y195), (0, .ref a0)]) hx hb dX0_follow_78 rfl hl (by decide) rfl (fun ls hl => ?_)
      exact w_X0_follow_79 hC hR ho LF o0 a0 y195 _ _ _ _ _ _ _ _ hi0 hw hc (lv_sub hl [1, 0] rfl) h --j196
  | some os2 =>
    have h := oqS h
    have his2 : Is S ad os2 (ad os2) 4 := ⟨(his2 os2 rfl).1, (his2 os2 rfl).2, rfl⟩
    have hl : lv_has ls 4 [(0, .ref a0)] := hl
    obtain ⟨hn197, h⟩ := ix_i h
    refine r_aas hC hw his0 (by decide) 4 kc_4 rfl his2 (fun _ => rfl) hn197 dX0_follow_63 (fun D198 eD198 H locs hw => ?_)
    have h := nm_i h D198 eD198
    refine lv_aload_n hx hb dX0_follow_64 rfl (lv_at hl 0 rfl) ?_
    obtain ⟨o199, ho202, h⟩ := rq_i h
    refine r_getR hC hw kc_0 hi0 2 rfl lk_319 dX0_follow_65 rfl ho202 (fun a200 hi201 => ?_)
    refine lv_iconst (v := 0) hx hb dX0_follow_68 (by decide) ?_
    obtain ⟨hn203, h⟩ := ix_i h
    rcases oq_i h with ⟨ho207, h⟩ | ⟨o204, ho207, h⟩
    · refine r_aaldN hC hw hi201 (by decide) 4 rfl hn203 dX0_follow_69 ho207 ?_
      refine lv_aload_n hx hb dX0_follow_70 rfl (lv_at hl 0 rfl) ?_
      obtain ⟨o208, ho211, h⟩ := rq_i h
      refine r_getR hC hw kc_0 hi0 4 rfl lk_321 dX0_follow_71 rfl ho211 (fun a209 hi210 => ?_)
      cases h
    · refine r_aald hC hw hi201 (by decide) 4 rfl hn203 dX0_follow_69 (fun _ => rfl) ho207 (fun a205 hi206 => ?_)
      refine lv_aload_n hx hb dX0_follow_70 rfl (lv_at hl 0 rfl) ?_
      obtain ⟨o212, ho215, h⟩ := rq_i h
      refine r_getR hC hw kc_0 hi0 4 rfl lk_321 dX0_follow_71 rfl ho215 (fun a213 hi214 => ?_)
      obtain ⟨_, D217, hq216, h⟩ := cq_i h
      refine r_cV (st' := []) [.ref a213] [] hC hw kc_4 hi206 (k_X5_copyFrom _ hi206 hi214 hq216) mk_X5_copyFrom lk_483 ⟨Nat.le_trans (by decide) hR.1, Nat.le_trans (by decide) hR.2⟩ (hc.le ho hE) rfl hl.1 rfl rfl (Nat.le_of_ble_eq_true rfl) dX0_follow_74 (fun hP H locs hw => ?_)
      refine lv_iconst (v := 0) hx hb dX0_follow_77 (by decide) ?_
      refine lv_topi (fun y218 ey218 => ?_)
      have h := nm_i h y218 ey218
      refine lv_istore_n (lv' := [(1, .int y218), (0, .ref a0)]) hx hb dX0_follow_78 rfl hl (by decide) rfl (fun ls hl => ?_)
      exact w_X0_follow_79 hC hR ho LF o0 a0 y218 _ _ _ _ _ _ _ _ hi0 hw hc (lv_sub hl [1, 0] rfl) h --j219
theorem mn_X0_follow_54 {r : Int32} {S' : sh} {D' : dt} {o0 : Nat} {os0 : Nat} {xs1 : Int32} {os2 : Nat} {S : sh} {D : dt} (h : f_X0_follow_54 o0 os0 xs1 os2 S D = some (r, S', D')) : Ext S S' := by
  unfold f_X0_follow_54 at h
  exact (mn_X0_follow_63 h)
set_option maxHeartbeats 4000000 in
set_option maxRecDepth 100000 in
theorem w_X0_follow_54 {r : Int32} {S' : sh} {D' : dt} {S0 : sh} {ad0 : Nat → Nat} (hC : Cx RX0 cX0_follow 4 (some .int) p s m args meth c) (hR : 6 ≤ R.frames ∧ 164 ≤ R.locals) (ho : R.cells = sN S' - sN S0 ∧ R.slots = sZ S' - sZ S0) : ∀ (o0 a0 : Nat) (os0 as0 : Nat) (xs1 : Int32) (os2 as2 : Nat) (S : sh) (D : dt) (ad : Nat → Nat) (H : Heap) (locs : List Loc) (ls : Array Slot) (cells slots : Nat), Is S ad o0 a0 0 → Is S ad os0 as0 204 → Is S ad os2 as2 4 → Wd G cA S D ad A s H locs → Al S0 ad0 S ad cells slots → lv_has ls 4 [(0, .ref a0)] → f_X0_follow_54 o0 os0 xs1 os2 S D = some (r, S', D') → W p l e R s m args below meth c H locs cells slots (MQ below (Qa (fun _ => (some (.int r))) (fun ad' => (∀ k, k < sN S0 → ad' k = ad0 k) ∧ True) (fun ad' => wpost G cA S' D' ad' A) A) args s (sN S' - sN S0) (sZ S' - sZ S0) A) (F0 m 54 ls [.ref as2, .int xs1, .ref as0]) := by
  obtain ⟨hx, hb, -⟩ := id hC
  intro o0 a0 os0 as0 xs1 os2 as2 S D ad H locs ls cells slots hi0 his0 his2 hw hc hl h
  have hE : Ext S S' := mn_X0_follow_54  h
  unfold f_X0_follow_54 at h
  refine lv_goto (tgt := 63) hx hb dX0_follow_54 (by decide) ?_
  obtain rfl := his2.2.2
  exact w_X0_follow_63 hC hR ho o0 a0 os0 as0 xs1 (some os2) _ _ _ _ _ _ _ _ hi0 his0 (fun z q => by cases q; exact ⟨his2.1, his2.2.1⟩) hw hc (lv_sub hl [0] rfl) h --j220
theorem mn_X0_follow_50 {r : Int32} {S' : sh} {D' : dt} {o0 : Nat} {os0 : Nat} {xs1 : Int32} {os2 : Nat} {S : sh} {D : dt} (h : f_X0_follow_50 o0 os0 xs1 os2 S D = some (r, S', D')) : Ext S S' := by
  unfold f_X0_follow_50 at h
  obtain ⟨_, S223, D222, hq221, h⟩ := c3_i h
  have hA := mn_X5_init_0 hq221
  exact hA.tr (mn_X0_follow_54 h)
set_option maxHeartbeats 4000000 in
set_option maxRecDepth 100000 in
theorem w_X0_follow_50 {r : Int32} {S' : sh} {D' : dt} {S0 : sh} {ad0 : Nat → Nat} (hC : Cx RX0 cX0_follow 4 (some .int) p s m args meth c) (hR : 6 ≤ R.frames ∧ 164 ≤ R.locals) (ho : R.cells = sN S' - sN S0 ∧ R.slots = sZ S' - sZ S0) : ∀ (o0 a0 : Nat) (os0 as0 : Nat) (xs1 : Int32) (os2 as2 : Nat) (S : sh) (D : dt) (ad : Nat → Nat) (H : Heap) (locs : List Loc) (ls : Array Slot) (cells slots : Nat), Is S ad o0 a0 0 → Is S ad os0 as0 204 → Is S ad os2 as2 4 → Wd G cA S D ad A s H locs → Al S0 ad0 S ad cells slots → lv_has ls 4 [(0, .ref a0)] → f_X0_follow_50 o0 os0 xs1 os2 S D = some (r, S', D') → W p l e R s m args below meth c H locs cells slots (MQ below (Qa (fun _ => (some (.int r))) (fun ad' => (∀ k, k < sN S0 → ad' k = ad0 k) ∧ True) (fun ad' => wpost G cA S' D' ad' A) A) args s (sN S' - sN S0) (sZ S' - sZ S0) A) (F0 m 50 ls [.ref as2, .int xs1, .ref as0]) := by
  obtain ⟨hx, hb, -⟩ := id hC
  intro o0 a0 os0 as0 xs1 os2 as2 S D ad H locs ls cells slots hi0 his0 his2 hw hc hl h
  have hE : Ext S S' := mn_X0_follow_50  h
  unfold f_X0_follow_50 at h
  refine lv_dup hx hb dX0_follow_50 rfl ?_
  obtain ⟨_, S223, D222, hq221, h⟩ := c3_i h
  have hE224 := mn_X5_init_0 hq221
  have hE225 := mn_X0_follow_54 h
  refine r_cINA [] [.ref as2, .int xs1, .ref as0] hC hw (k_X5_init _ his2 hq221) mk_X5_init hw.2.2.2.2.2.2.n2 ⟨Nat.le_trans (by decide) hR.1, Nat.le_trans (by decide) hR.2⟩ (hc.roomC ho hE224 hE225) rfl hl.1 rfl (Nat.le_of_ble_eq_true rfl) dX0_follow_51 (fun ad226 hP H locs hw => ?_)
  refine W.eq (g2 := F0 m 54 ls [.ref as2, .int xs1, .ref as0]) rfl ?_
  have hi227 := Is.up his2 hE224 hP.1
  have hi228 := Is.up his0 hE224 hP.1
  have hi229 := Is.up hi0 hE224 hP.1
  have hc := hc.call hE224 hP.1
  exact w_X0_follow_54 hC hR ho o0 a0 os0 as0 xs1 os2 as2 _ _ _ _ _ _ _ _ hi229 hi228 hi227 hw hc (lv_sub hl [0] rfl) h --j230
theorem mn_X0_follow_0 {r : Int32} {S' : sh} {D' : dt} {o0 : Nat} {S : sh} {D : dt} (h : f_X0_follow o0 S D = some (r, S', D')) : Ext S S' := by
  unfold f_X0_follow at h
  obtain ⟨_, D232, hq231, h⟩ := cq_i h
  obtain ⟨o233, ho236, h⟩ := rq_i h
  rcases (Decidable.em ((gI D232 o233 5) = 0)).symm with c237 | c237
  · have h := i_no c237 h
    obtain ⟨_, D239, hq238, h⟩ := cq_i h
    obtain ⟨o240, ho243, h⟩ := rq_i h
    obtain ⟨_, D245, hq244, h⟩ := cq_i h
    obtain ⟨o246, ho249, h⟩ := rq_i h
    obtain ⟨o250, ho253, h⟩ := rq_i h
    obtain ⟨hn254, h⟩ := ix_i h
    rcases oq_i h with ⟨ho258, h⟩ | ⟨o255, ho258, h⟩
    · skip
      have hA := (Ext.aS S 4 0 6)
      exact hA.tr (mn_X0_follow_50 h)
    · skip
      obtain ⟨o265, ho268, h⟩ := rq_i h
      obtain ⟨hn269, h⟩ := ix_i h
      rcases oq_i h with ⟨ho273, h⟩ | ⟨o270, ho273, h⟩
      · skip
        exact (mn_X0_follow_63 h)
      · skip
        exact (mn_X0_follow_63 h)
  · have h := i_yes c237 h
    have h := nm_i h _ rfl
    cases h
    exact Ext.rf _
set_option maxHeartbeats 4000000 in
set_option maxRecDepth 100000 in
theorem w_X0_follow_0 {r : Int32} {S' : sh} {D' : dt} {S0 : sh} {ad0 : Nat → Nat} (hC : Cx RX0 cX0_follow 4 (some .int) p s m args meth c) (hR : 6 ≤ R.frames ∧ 164 ≤ R.locals) (ho : R.cells = sN S' - sN S0 ∧ R.slots = sZ S' - sZ S0) : ∀ (o0 a0 : Nat) (S : sh) (D : dt) (ad : Nat → Nat) (H : Heap) (locs : List Loc) (ls : Array Slot) (cells slots : Nat), Is S ad o0 a0 0 → Wd G cA S D ad A s H locs → Al S0 ad0 S ad cells slots → lv_has ls 4 [(0, .ref a0)] → f_X0_follow o0 S D = some (r, S', D') → W p l e R s m args below meth c H locs cells slots (MQ below (Qa (fun _ => (some (.int r))) (fun ad' => (∀ k, k < sN S0 → ad' k = ad0 k) ∧ True) (fun ad' => wpost G cA S' D' ad' A) A) args s (sN S' - sN S0) (sZ S' - sZ S0) A) (F0 m 0 ls []) := by
  obtain ⟨hx, hb, -⟩ := id hC
  intro o0 a0 S D ad H locs ls cells slots hi0 hw hc hl h
  have hE : Ext S S' := mn_X0_follow_0  h
  unfold f_X0_follow at h
  refine lv_aload_n hx hb dX0_follow_0 rfl (lv_at hl 0 rfl) ?_
  obtain ⟨_, D232, hq231, h⟩ := cq_i h
  refine r_cV (st' := []) [] [] hC hw kc_0 hi0 (k_X0_forgetScenes _ hi0 hq231) mk_X0_forgetScenes lk_461 ⟨Nat.le_trans (by decide) hR.1, Nat.le_trans (by decide) hR.2⟩ (hc.le ho hE) rfl hl.1 rfl rfl (Nat.le_of_ble_eq_true rfl) dX0_follow_1 (fun hP H locs hw => ?_)
  refine lv_aload_n hx hb dX0_follow_4 rfl (lv_at hl 0 rfl) ?_
  obtain ⟨o233, ho236, h⟩ := rq_i h
  refine r_getR hC hw kc_0 hi0 0 rfl lk_317 dX0_follow_5 rfl ho236 (fun a234 hi235 => ?_)
  refine r_gI hC hw kc_3 hi235 5 rfl lk_158 dX0_follow_8 ?_
  refine lv_if_ne (tgt := 22) hx hb dX0_follow_11 (by decide) (fun c237 => ?_) (fun c237 => ?_)
  · have h := i_no c237 h
    refine lv_aload_n hx hb dX0_follow_22 rfl (lv_at hl 0 rfl) ?_
    obtain ⟨_, D239, hq238, h⟩ := cq_i h
    refine r_cV (st' := []) [] [] hC hw kc_0 hi0 (k_X0_markSeconds _ hi0 hq238) mk_X0_markSeconds lk_465 ⟨Nat.le_trans (by decide) hR.1, Nat.le_trans (by decide) hR.2⟩ (hc.le ho hE) rfl hl.1 rfl rfl (Nat.le_of_ble_eq_true rfl) dX0_follow_23 (fun hP H locs hw => ?_)
    refine lv_aload_n hx hb dX0_follow_26 rfl (lv_at hl 0 rfl) ?_
    obtain ⟨o240, ho243, h⟩ := rq_i h
    refine r_getR hC hw kc_0 hi0 4 rfl lk_321 dX0_follow_27 rfl ho243 (fun a241 hi242 => ?_)
    obtain ⟨_, D245, hq244, h⟩ := cq_i h
    refine r_cV (st' := []) [] [] hC hw kc_4 hi242 (k_X5_begin _ hi242 hq244) mk_X5_begin lk_469 ⟨Nat.le_trans (by decide) hR.1, Nat.le_trans (by decide) hR.2⟩ (hc.le ho hE) rfl hl.1 rfl rfl (Nat.le_of_ble_eq_true rfl) dX0_follow_30 (fun hP H locs hw => ?_)
    refine lv_aload_n hx hb dX0_follow_33 rfl (lv_at hl 0 rfl) ?_
    obtain ⟨o246, ho249, h⟩ := rq_i h
    refine r_getR hC hw kc_0 hi0 2 rfl lk_319 dX0_follow_34 rfl ho249 (fun a247 hi248 => ?_)
    refine lv_iconst (v := 0) hx hb dX0_follow_37 (by decide) ?_
    refine lv_aload_n hx hb dX0_follow_38 rfl (lv_at hl 0 rfl) ?_
    obtain ⟨o250, ho253, h⟩ := rq_i h
    refine r_getR hC hw kc_0 hi0 2 rfl lk_319 dX0_follow_39 rfl ho253 (fun a251 hi252 => ?_)
    refine lv_iconst (v := 0) hx hb dX0_follow_42 (by decide) ?_
    obtain ⟨hn254, h⟩ := ix_i h
    rcases oq_i h with ⟨ho258, h⟩ | ⟨o255, ho258, h⟩
    · refine r_aaldN hC hw hi252 (by decide) 4 rfl hn254 dX0_follow_43 ho258 ?_
      refine lv_ifnonnullN hx hb dX0_follow_44 ?_
      have hE261 := mn_X0_follow_50 h
      refine r_new hC hw kc_4 df_4 lk_256 lk_258 lk_119 (hc.room ho hE261).1 (hc.room ho hE261).2 dX0_follow_47 (fun q259 H hw hi260 => ?_)
      have hi262 := Is.up hi248 (Ext.aS S 4 0 6) (up_lt (q := q259))
      have hi263 := Is.up hi0 (Ext.aS S 4 0 6) (up_lt (q := q259))
      have hc := hc.new 4 0 6 q259
      exact w_X0_follow_50 hC hR ho o0 a0 o246 a247 (0 : Int32) (sN S) q259 _ _ _ _ _ _ _ _ hi263 hi262 hi260 hw hc (lv_sub hl [0] rfl) h --j264
    · refine r_aald hC hw hi252 (by decide) 4 rfl hn254 dX0_follow_43 (fun _ => rfl) ho258 (fun a256 hi257 => ?_)
      refine lv_ifnonnull (tgt := 57) hx hb dX0_follow_44 (by decide) ?_
      refine lv_aload_n hx hb dX0_follow_57 rfl (lv_at hl 0 rfl) ?_
      obtain ⟨o265, ho268, h⟩ := rq_i h
      refine r_getR hC hw kc_0 hi0 2 rfl lk_319 dX0_follow_58 rfl ho268 (fun a266 hi267 => ?_)
      refine lv_iconst (v := 0) hx hb dX0_follow_61 (by decide) ?_
      obtain ⟨hn269, h⟩ := ix_i h
      rcases oq_i h with ⟨ho273, h⟩ | ⟨o270, ho273, h⟩
      · refine r_aaldN hC hw hi267 (by decide) 4 rfl hn269 dX0_follow_62 ho273 ?_
        exact w_X0_follow_63 hC hR ho o0 a0 o246 a247 (0 : Int32) none _ _ _ _ _ _ _ _ hi0 hi248 (fun _ q => nomatch q) hw hc (lv_sub hl [0] rfl) h --j274
      · refine r_aald hC hw hi267 (by decide) 4 rfl hn269 dX0_follow_62 (fun _ => rfl) ho273 (fun a271 hi272 => ?_)
        obtain rfl := hi272.2.2
        exact w_X0_follow_63 hC hR ho o0 a0 o246 a247 (0 : Int32) (some o270) _ _ _ _ _ _ _ _ hi0 hi248 (fun z q => by cases q; exact ⟨hi272.1, hi272.2.1⟩) hw hc (lv_sub hl [0] rfl) h --j275
  · have h := i_yes c237 h
    refine lv_aload_n hx hb dX0_follow_14 rfl (lv_at hl 0 rfl) ?_
    refine lv_iconst (v := 0) hx hb dX0_follow_15 (by decide) ?_
    refine r_pI hC hw kc_0 hi0 7 rfl lk_324 rfl rfl rfl dX0_follow_16 (fun D276 eD276 H locs hw => ?_)
    have h := nm_i h D276 eD276
    refine lv_bipush (v := 6) hx hb dX0_follow_19 (by decide) ?_
    cases h
    exact r_iretA hC hw hc dX0_follow_21
set_option maxHeartbeats 4000000 in
set_option maxRecDepth 100000 in
theorem k_X0_follow {l : Launch} {G : va_G} {cA : Nat → ClassId} {S S' : sh} {D D' : dt} {ad : Nat → Nat} (sz : Nat) {o0 a0 : Nat} {r : Int32} (hi0 : Is S ad o0 a0 0) (h : f_X0_follow o0 S D = some (r, S', D')) : CoA l yX0_follow (Cond.code yX0_follow cX0_follow 4 (some .int) :: tb0) 6 164 [.ref a0] G cA S D ad sz (fun _ => (some (.int r))) True S' D' := by
  refine Met.ofW (cc := cX0_follow) (maxL := 4) (ret := (some .int)) (by decide) rfl ?_
  intro p e s m args below meth c s₁ B hml hv
  obtain ⟨rfl, hsz, hP, hK, hD0, hT, hX⟩ := hv
  subst hsz
  have hts := atoms_spec (ws := Cond.code yX0_follow cX0_follow 4 (some .int) :: tb0) B.pre
  have hC : Cx RX0 cX0_follow 4 (some .int) p s m _ meth c := ⟨B.exec, B.bytes, hml, findClass_of_methodNamed B.named, fun w q => hts w (List.mem_cons_of_mem _ q), B.returns, B.notSynchronized⟩
  have hw := Wd.entry hP hK hD0 hT hX
  have hl := lv_entry ([.ref a0]) (n := 4) (Nat.le_of_ble_eq_true rfl)
  rw [lg_entry_eq]
  exact w_X0_follow_0 hC ⟨Nat.le_refl _, Nat.le_refl _⟩ ⟨rfl, rfl⟩ o0 a0 S D ad _ _ _ 0 0 hi0 hw (Al.rf S ad) hl h
end

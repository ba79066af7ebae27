theorem dX9_lookJump_0 : decode cX9_lookJump 0 = .ok (.aload_n 0, 1) := by decide +kernel
theorem dX9_lookJump_1 : decode cX9_lookJump 1 = .ok (.getfield 7, 3) := by decide +kernel
theorem dX9_lookJump_4 : decode cX9_lookJump 4 = .ok (.iload_n 1, 1) := by decide +kernel
theorem dX9_lookJump_5 : decode cX9_lookJump 5 = .ok (.iaload, 1) := by decide +kernel
theorem dX9_lookJump_6 : decode cX9_lookJump 6 = .ok (.iconst 4, 1) := by decide +kernel
theorem dX9_lookJump_7 : decode cX9_lookJump 7 = .ok (.ishr, 1) := by decide +kernel
theorem dX9_lookJump_8 : decode cX9_lookJump 8 = .ok (.istore_n 2, 1) := by decide +kernel
theorem dX9_lookJump_9 : decode cX9_lookJump 9 = .ok (.aload_n 0, 1) := by decide +kernel
theorem dX9_lookJump_10 : decode cX9_lookJump 10 = .ok (.getfield 7, 3) := by decide +kernel
theorem dX9_lookJump_13 : decode cX9_lookJump 13 = .ok (.iload_n 1, 1) := by decide +kernel
theorem dX9_lookJump_14 : decode cX9_lookJump 14 = .ok (.iaload, 1) := by decide +kernel
theorem dX9_lookJump_15 : decode cX9_lookJump 15 = .ok (.bipush 7, 2) := by decide +kernel
theorem dX9_lookJump_17 : decode cX9_lookJump 17 = .ok (.iand, 1) := by decide +kernel
theorem dX9_lookJump_18 : decode cX9_lookJump 18 = .ok (.iconst 5, 1) := by decide +kernel
theorem dX9_lookJump_19 : decode cX9_lookJump 19 = .ok (.if_icmp .ne 7, 3) := by decide +kernel
theorem dX9_lookJump_22 : decode cX9_lookJump 22 = .ok (.iconst 1, 1) := by decide +kernel
theorem dX9_lookJump_23 : decode cX9_lookJump 23 = .ok (.goto 4, 3) := by decide +kernel
theorem dX9_lookJump_26 : decode cX9_lookJump 26 = .ok (.iconst 0, 1) := by decide +kernel
theorem dX9_lookJump_27 : decode cX9_lookJump 27 = .ok (.istore_n 3, 1) := by decide +kernel
theorem dX9_lookJump_28 : decode cX9_lookJump 28 = .ok (.aload_n 0, 1) := by decide +kernel
theorem dX9_lookJump_29 : decode cX9_lookJump 29 = .ok (.getfield 7, 3) := by decide +kernel
theorem dX9_lookJump_32 : decode cX9_lookJump 32 = .ok (.iload_n 1, 1) := by decide +kernel
theorem dX9_lookJump_33 : decode cX9_lookJump 33 = .ok (.iaload, 1) := by decide +kernel
theorem dX9_lookJump_34 : decode cX9_lookJump 34 = .ok (.bipush 8, 2) := by decide +kernel
theorem dX9_lookJump_36 : decode cX9_lookJump 36 = .ok (.iand, 1) := by decide +kernel
theorem dX9_lookJump_37 : decode cX9_lookJump 37 = .ok (.ifCond .eq 7, 3) := by decide +kernel
theorem dX9_lookJump_40 : decode cX9_lookJump 40 = .ok (.iconst 1, 1) := by decide +kernel
theorem dX9_lookJump_41 : decode cX9_lookJump 41 = .ok (.goto 4, 3) := by decide +kernel
theorem dX9_lookJump_44 : decode cX9_lookJump 44 = .ok (.iconst 0, 1) := by decide +kernel
theorem dX9_lookJump_45 : decode cX9_lookJump 45 = .ok (.istore 4, 2) := by decide +kernel
theorem dX9_lookJump_47 : decode cX9_lookJump 47 = .ok (.aload_n 0, 1) := by decide +kernel
theorem dX9_lookJump_48 : decode cX9_lookJump 48 = .ok (.getfield 13, 3) := by decide +kernel
theorem dX9_lookJump_51 : decode cX9_lookJump 51 = .ok (.iload_n 1, 1) := by decide +kernel
theorem dX9_lookJump_52 : decode cX9_lookJump 52 = .ok (.iaload, 1) := by decide +kernel
theorem dX9_lookJump_53 : decode cX9_lookJump 53 = .ok (.istore 5, 2) := by decide +kernel
theorem dX9_lookJump_55 : decode cX9_lookJump 55 = .ok (.aload_n 0, 1) := by decide +kernel
theorem dX9_lookJump_56 : decode cX9_lookJump 56 = .ok (.iload_n 1, 1) := by decide +kernel
theorem dX9_lookJump_57 : decode cX9_lookJump 57 = .ok (.invokevirtual 406, 3) := by decide +kernel
theorem dX9_lookJump_60 : decode cX9_lookJump 60 = .ok (.aload_n 0, 1) := by decide +kernel
theorem dX9_lookJump_61 : decode cX9_lookJump 61 = .ok (.getfield 106, 3) := by decide +kernel
theorem dX9_lookJump_64 : decode cX9_lookJump 64 = .ok (.iload 5, 2) := by decide +kernel
theorem dX9_lookJump_66 : decode cX9_lookJump 66 = .ok (.iaload, 1) := by decide +kernel
theorem dX9_lookJump_67 : decode cX9_lookJump 67 = .ok (.ifCond .eq 10, 3) := by decide +kernel
theorem dX9_lookJump_70 : decode cX9_lookJump 70 = .ok (.aload_n 0, 1) := by decide +kernel
theorem dX9_lookJump_71 : decode cX9_lookJump 71 = .ok (.getfield 397, 3) := by decide +kernel
theorem dX9_lookJump_74 : decode cX9_lookJump 74 = .ok (.ifCond .ne 5, 3) := by decide +kernel
theorem dX9_lookJump_77 : decode cX9_lookJump 77 = .ok (.iconst 2, 1) := by decide +kernel
theorem dX9_lookJump_78 : decode cX9_lookJump 78 = .ok (.ireturn, 1) := by decide +kernel
theorem dX9_lookJump_79 : decode cX9_lookJump 79 = .ok (.aload_n 0, 1) := by decide +kernel
theorem dX9_lookJump_80 : decode cX9_lookJump 80 = .ok (.getfield 106, 3) := by decide +kernel
theorem dX9_lookJump_83 : decode cX9_lookJump 83 = .ok (.iload 5, 2) := by decide +kernel
theorem dX9_lookJump_85 : decode cX9_lookJump 85 = .ok (.iaload, 1) := by decide +kernel
theorem dX9_lookJump_86 : decode cX9_lookJump 86 = .ok (.bipush 6, 2) := by decide +kernel
theorem dX9_lookJump_88 : decode cX9_lookJump 88 = .ok (.if_icmp .ne 35, 3) := by decide +kernel
theorem dX9_lookJump_91 : decode cX9_lookJump 91 = .ok (.iload 4, 2) := by decide +kernel
theorem dX9_lookJump_93 : decode cX9_lookJump 93 = .ok (.ifCond .ne 30, 3) := by decide +kernel
theorem dX9_lookJump_96 : decode cX9_lookJump 96 = .ok (.aload_n 0, 1) := by decide +kernel
theorem dX9_lookJump_97 : decode cX9_lookJump 97 = .ok (.getfield 22, 3) := by decide +kernel
theorem dX9_lookJump_100 : decode cX9_lookJump 100 = .ok (.iload_n 1, 1) := by decide +kernel
theorem dX9_lookJump_101 : decode cX9_lookJump 101 = .ok (.iaload, 1) := by decide +kernel
theorem dX9_lookJump_102 : decode cX9_lookJump 102 = .ok (.ifCond .ne 21, 3) := by decide +kernel
theorem dX9_lookJump_105 : decode cX9_lookJump 105 = .ok (.iload_n 3, 1) := by decide +kernel
theorem dX9_lookJump_106 : decode cX9_lookJump 106 = .ok (.ifCond .eq 17, 3) := by decide +kernel
theorem dX9_lookJump_109 : decode cX9_lookJump 109 = .ok (.iload_n 2, 1) := by decide +kernel
theorem dX9_lookJump_110 : decode cX9_lookJump 110 = .ok (.iconst 1, 1) := by decide +kernel
theorem dX9_lookJump_111 : decode cX9_lookJump 111 = .ok (.if_icmp .eq 8, 3) := by decide +kernel
theorem dX9_lookJump_114 : decode cX9_lookJump 114 = .ok (.iload_n 2, 1) := by decide +kernel
theorem dX9_lookJump_115 : decode cX9_lookJump 115 = .ok (.iconst 5, 1) := by decide +kernel
theorem dX9_lookJump_116 : decode cX9_lookJump 116 = .ok (.if_icmp .ne 7, 3) := by decide +kernel
theorem dX9_lookJump_119 : decode cX9_lookJump 119 = .ok (.iconst 1, 1) := by decide +kernel
theorem dX9_lookJump_120 : decode cX9_lookJump 120 = .ok (.goto 4, 3) := by decide +kernel
theorem dX9_lookJump_123 : decode cX9_lookJump 123 = .ok (.iconst 0, 1) := by decide +kernel
theorem dX9_lookJump_124 : decode cX9_lookJump 124 = .ok (.istore 6, 2) := by decide +kernel
theorem dX9_lookJump_126 : decode cX9_lookJump 126 = .ok (.iload 6, 2) := by decide +kernel
theorem dX9_lookJump_128 : decode cX9_lookJump 128 = .ok (.ifCond .ne 24, 3) := by decide +kernel
theorem dX9_lookJump_131 : decode cX9_lookJump 131 = .ok (.aload_n 0, 1) := by decide +kernel
theorem dX9_lookJump_132 : decode cX9_lookJump 132 = .ok (.getfield 106, 3) := by decide +kernel
theorem dX9_lookJump_135 : decode cX9_lookJump 135 = .ok (.iload 5, 2) := by decide +kernel
theorem dX9_lookJump_137 : decode cX9_lookJump 137 = .ok (.iaload, 1) := by decide +kernel
theorem dX9_lookJump_138 : decode cX9_lookJump 138 = .ok (.iconst 1, 1) := by decide +kernel
theorem dX9_lookJump_139 : decode cX9_lookJump 139 = .ok (.if_icmp .ne 11, 3) := by decide +kernel
theorem dX9_lookJump_142 : decode cX9_lookJump 142 = .ok (.aload_n 0, 1) := by decide +kernel
theorem dX9_lookJump_143 : decode cX9_lookJump 143 = .ok (.getfield 397, 3) := by decide +kernel
theorem dX9_lookJump_146 : decode cX9_lookJump 146 = .ok (.iconst 1, 1) := by decide +kernel
theorem dX9_lookJump_147 : decode cX9_lookJump 147 = .ok (.if_icmp .eq 5, 3) := by decide +kernel
theorem dX9_lookJump_150 : decode cX9_lookJump 150 = .ok (.iconst 3, 1) := by decide +kernel
theorem dX9_lookJump_151 : decode cX9_lookJump 151 = .ok (.ireturn, 1) := by decide +kernel
theorem dX9_lookJump_152 : decode cX9_lookJump 152 = .ok (.iload_n 2, 1) := by decide +kernel
theorem dX9_lookJump_153 : decode cX9_lookJump 153 = .ok (.iconst 1, 1) := by decide +kernel
theorem dX9_lookJump_154 : decode cX9_lookJump 154 = .ok (.if_icmp .eq 30, 3) := by decide +kernel
theorem dX9_lookJump_157 : decode cX9_lookJump 157 = .ok (.iload_n 2, 1) := by decide +kernel
theorem dX9_lookJump_158 : decode cX9_lookJump 158 = .ok (.iconst 5, 1) := by decide +kernel
theorem dX9_lookJump_159 : decode cX9_lookJump 159 = .ok (.if_icmp .eq 25, 3) := by decide +kernel
theorem dX9_lookJump_162 : decode cX9_lookJump 162 = .ok (.iload_n 2, 1) := by decide +kernel
theorem dX9_lookJump_163 : decode cX9_lookJump 163 = .ok (.iconst 2, 1) := by decide +kernel
theorem dX9_lookJump_164 : decode cX9_lookJump 164 = .ok (.if_icmp .eq 20, 3) := by decide +kernel
theorem dX9_lookJump_167 : decode cX9_lookJump 167 = .ok (.iload_n 2, 1) := by decide +kernel
theorem dX9_lookJump_168 : decode cX9_lookJump 168 = .ok (.iconst 3, 1) := by decide +kernel
theorem dX9_lookJump_169 : decode cX9_lookJump 169 = .ok (.if_icmp .eq 15, 3) := by decide +kernel
theorem dX9_lookJump_172 : decode cX9_lookJump 172 = .ok (.iload_n 2, 1) := by decide +kernel
theorem dX9_lookJump_173 : decode cX9_lookJump 173 = .ok (.bipush 10, 2) := by decide +kernel
theorem dX9_lookJump_175 : decode cX9_lookJump 175 = .ok (.if_icmp .eq 9, 3) := by decide +kernel
theorem dX9_lookJump_178 : decode cX9_lookJump 178 = .ok (.iload_n 2, 1) := by decide +kernel
theorem dX9_lookJump_179 : decode cX9_lookJump 179 = .ok (.bipush 11, 2) := by decide +kernel
theorem dX9_lookJump_181 : decode cX9_lookJump 181 = .ok (.if_icmp .ne 7, 3) := by decide +kernel
theorem dX9_lookJump_184 : decode cX9_lookJump 184 = .ok (.iconst 1, 1) := by decide +kernel
theorem dX9_lookJump_185 : decode cX9_lookJump 185 = .ok (.goto 4, 3) := by decide +kernel
theorem dX9_lookJump_188 : decode cX9_lookJump 188 = .ok (.iconst 0, 1) := by decide +kernel
theorem dX9_lookJump_189 : decode cX9_lookJump 189 = .ok (.istore 7, 2) := by decide +kernel
theorem dX9_lookJump_191 : decode cX9_lookJump 191 = .ok (.aload_n 0, 1) := by decide +kernel
theorem dX9_lookJump_192 : decode cX9_lookJump 192 = .ok (.iload 6, 2) := by decide +kernel
theorem dX9_lookJump_194 : decode cX9_lookJump 194 = .ok (.ifCond .eq 7, 3) := by decide +kernel
theorem dX9_lookJump_197 : decode cX9_lookJump 197 = .ok (.iconst 3, 1) := by decide +kernel
theorem dX9_lookJump_198 : decode cX9_lookJump 198 = .ok (.goto 55, 3) := by decide +kernel
theorem dX9_lookJump_201 : decode cX9_lookJump 201 = .ok (.iload_n 3, 1) := by decide +kernel
theorem dX9_lookJump_202 : decode cX9_lookJump 202 = .ok (.ifCond .eq 8, 3) := by decide +kernel
theorem dX9_lookJump_205 : decode cX9_lookJump 205 = .ok (.iload 7, 2) := by decide +kernel
theorem dX9_lookJump_207 : decode cX9_lookJump 207 = .ok (.ifCond .ne 7, 3) := by decide +kernel
theorem dX9_lookJump_210 : decode cX9_lookJump 210 = .ok (.iconst 0, 1) := by decide +kernel
theorem dX9_lookJump_211 : decode cX9_lookJump 211 = .ok (.goto 42, 3) := by decide +kernel
theorem dX9_lookJump_214 : decode cX9_lookJump 214 = .ok (.aload_n 0, 1) := by decide +kernel
theorem dX9_lookJump_215 : decode cX9_lookJump 215 = .ok (.getfield 400, 3) := by decide +kernel
theorem dX9_lookJump_218 : decode cX9_lookJump 218 = .ok (.aload_n 0, 1) := by decide +kernel
theorem dX9_lookJump_219 : decode cX9_lookJump 219 = .ok (.getfield 403, 3) := by decide +kernel
theorem dX9_lookJump_222 : decode cX9_lookJump 222 = .ok (.lcmp, 1) := by decide +kernel
theorem dX9_lookJump_223 : decode cX9_lookJump 223 = .ok (.ifCond .ne 7, 3) := by decide +kernel
theorem dX9_lookJump_226 : decode cX9_lookJump 226 = .ok (.iconst 1, 1) := by decide +kernel
theorem dX9_lookJump_227 : decode cX9_lookJump 227 = .ok (.goto 26, 3) := by decide +kernel
theorem dX9_lookJump_230 : decode cX9_lookJump 230 = .ok (.aload_n 0, 1) := by decide +kernel
theorem dX9_lookJump_231 : decode cX9_lookJump 231 = .ok (.getfield 109, 3) := by decide +kernel

theorem dX9_divided_0 : decode cX9_divided 0 = .ok (.lload_n 2, 1) := by decide +kernel
theorem dX9_divided_1 : decode cX9_divided 1 = .ok (.lconst 0, 1) := by decide +kernel
theorem dX9_divided_2 : decode cX9_divided 2 = .ok (.lcmp, 1) := by decide +kernel
theorem dX9_divided_3 : decode cX9_divided 3 = .ok (.ifCond .ne 14, 3) := by decide +kernel
theorem dX9_divided_6 : decode cX9_divided 6 = .ok (.iload 6, 2) := by decide +kernel
theorem dX9_divided_8 : decode cX9_divided 8 = .ok (.ifCond .eq 7, 3) := by decide +kernel
theorem dX9_divided_11 : decode cX9_divided 11 = .ok (.lload_n 0, 1) := by decide +kernel
theorem dX9_divided_12 : decode cX9_divided 12 = .ok (.goto 4, 3) := by decide +kernel
theorem dX9_divided_15 : decode cX9_divided 15 = .ok (.lconst 0, 1) := by decide +kernel
theorem dX9_divided_16 : decode cX9_divided 16 = .ok (.lreturn, 1) := by decide +kernel
theorem dX9_divided_17 : decode cX9_divided 17 = .ok (.iload 5, 2) := by decide +kernel
theorem dX9_divided_19 : decode cX9_divided 19 = .ok (.ifCond .ne 26, 3) := by decide +kernel
theorem dX9_divided_22 : decode cX9_divided 22 = .ok (.iload 6, 2) := by decide +kernel
theorem dX9_divided_24 : decode cX9_divided 24 = .ok (.ifCond .eq 15, 3) := by decide +kernel
theorem dX9_divided_27 : decode cX9_divided 27 = .ok (.lload_n 0, 1) := by decide +kernel
theorem dX9_divided_28 : decode cX9_divided 28 = .ok (.lload_n 0, 1) := by decide +kernel
theorem dX9_divided_29 : decode cX9_divided 29 = .ok (.lload_n 2, 1) := by decide +kernel
theorem dX9_divided_30 : decode cX9_divided 30 = .ok (.invokestatic 179, 3) := by decide +kernel
theorem dX9_divided_33 : decode cX9_divided 33 = .ok (.lload_n 2, 1) := by decide +kernel
theorem dX9_divided_34 : decode cX9_divided 34 = .ok (.lmul, 1) := by decide +kernel
theorem dX9_divided_35 : decode cX9_divided 35 = .ok (.lsub, 1) := by decide +kernel
theorem dX9_divided_36 : decode cX9_divided 36 = .ok (.goto 8, 3) := by decide +kernel
theorem dX9_divided_39 : decode cX9_divided 39 = .ok (.lload_n 0, 1) := by decide +kernel
theorem dX9_divided_40 : decode cX9_divided 40 = .ok (.lload_n 2, 1) := by decide +kernel
theorem dX9_divided_41 : decode cX9_divided 41 = .ok (.invokestatic 179, 3) := by decide +kernel
theorem dX9_divided_44 : decode cX9_divided 44 = .ok (.lreturn, 1) := by decide +kernel
theorem dX9_divided_45 : decode cX9_divided 45 = .ok (.iload 4, 2) := by decide +kernel
theorem dX9_divided_47 : decode cX9_divided 47 = .ok (.ifCond .eq 7, 3) := by decide +kernel
theorem dX9_divided_50 : decode cX9_divided 50 = .ok (.lload_n 0, 1) := by decide +kernel
theorem dX9_divided_51 : decode cX9_divided 51 = .ok (.goto 9, 3) := by decide +kernel
theorem dX9_divided_54 : decode cX9_divided 54 = .ok (.lload_n 0, 1) := by decide +kernel
theorem dX9_divided_55 : decode cX9_divided 55 = .ok (.bipush 32, 2) := by decide +kernel
theorem dX9_divided_57 : decode cX9_divided 57 = .ok (.invokestatic 183, 3) := by decide +kernel
theorem dX9_divided_60 : decode cX9_divided 60 = .ok (.lstore 7, 2) := by decide +kernel
theorem dX9_divided_62 : decode cX9_divided 62 = .ok (.iload 4, 2) := by decide +kernel
theorem dX9_divided_64 : decode cX9_divided 64 = .ok (.ifCond .eq 7, 3) := by decide +kernel
theorem dX9_divided_67 : decode cX9_divided 67 = .ok (.lload_n 2, 1) := by decide +kernel
theorem dX9_divided_68 : decode cX9_divided 68 = .ok (.goto 9, 3) := by decide +kernel
theorem dX9_divided_71 : decode cX9_divided 71 = .ok (.lload_n 2, 1) := by decide +kernel
theorem dX9_divided_72 : decode cX9_divided 72 = .ok (.bipush 32, 2) := by decide +kernel
theorem dX9_divided_74 : decode cX9_divided 74 = .ok (.invokestatic 183, 3) := by decide +kernel
theorem dX9_divided_77 : decode cX9_divided 77 = .ok (.lstore 9, 2) := by decide +kernel
theorem dX9_divided_79 : decode cX9_divided 79 = .ok (.lload 9, 2) := by decide +kernel
theorem dX9_divided_81 : decode cX9_divided 81 = .ok (.ldc2_w 187, 3) := by decide +kernel
theorem dX9_divided_84 : decode cX9_divided 84 = .ok (.lcmp, 1) := by decide +kernel
theorem dX9_divided_85 : decode cX9_divided 85 = .ok (.ifCond .ne 16, 3) := by decide +kernel
theorem dX9_divided_88 : decode cX9_divided 88 = .ok (.iload 6, 2) := by decide +kernel
theorem dX9_divided_90 : decode cX9_divided 90 = .ok (.ifCond .eq 7, 3) := by decide +kernel
theorem dX9_divided_93 : decode cX9_divided 93 = .ok (.lconst 0, 1) := by decide +kernel
theorem dX9_divided_94 : decode cX9_divided 94 = .ok (.goto 6, 3) := by decide +kernel
theorem dX9_divided_97 : decode cX9_divided 97 = .ok (.lload 7, 2) := by decide +kernel
theorem dX9_divided_99 : decode cX9_divided 99 = .ok (.lneg, 1) := by decide +kernel
theorem dX9_divided_100 : decode cX9_divided 100 = .ok (.lreturn, 1) := by decide +kernel
theorem dX9_divided_101 : decode cX9_divided 101 = .ok (.iload 6, 2) := by decide +kernel
theorem dX9_divided_103 : decode cX9_divided 103 = .ok (.ifCond .eq 11, 3) := by decide +kernel
theorem dX9_divided_106 : decode cX9_divided 106 = .ok (.lload 7, 2) := by decide +kernel
theorem dX9_divided_108 : decode cX9_divided 108 = .ok (.lload 9, 2) := by decide +kernel
theorem dX9_divided_110 : decode cX9_divided 110 = .ok (.lrem, 1) := by decide +kernel
theorem dX9_divided_111 : decode cX9_divided 111 = .ok (.goto 8, 3) := by decide +kernel
theorem dX9_divided_114 : decode cX9_divided 114 = .ok (.lload 7, 2) := by decide +kernel
theorem dX9_divided_116 : decode cX9_divided 116 = .ok (.lload 9, 2) := by decide +kernel
theorem dX9_divided_118 : decode cX9_divided 118 = .ok (.ldiv, 1) := by decide +kernel
theorem dX9_divided_119 : decode cX9_divided 119 = .ok (.lreturn, 1) := by decide +kernel
theorem dX9_made_0 : decode cX9_made 0 = .ok (.lload 6, 2) := by decide +kernel
theorem dX9_made_2 : decode cX9_made 2 = .ok (.l2i, 1) := by decide +kernel
theorem dX9_made_3 : decode cX9_made 3 = .ok (.iload_n 3, 1) := by decide +kernel
theorem dX9_made_4 : decode cX9_made 4 = .ok (.ifCond .eq 8, 3) := by decide +kernel
theorem dX9_made_7 : decode cX9_made 7 = .ok (.bipush 63, 2) := by decide +kernel
theorem dX9_made_9 : decode cX9_made 9 = .ok (.goto 5, 3) := by decide +kernel
theorem dX9_made_12 : decode cX9_made 12 = .ok (.bipush 31, 2) := by decide +kernel
theorem dX9_made_14 : decode cX9_made 14 = .ok (.iand, 1) := by decide +kernel
theorem dX9_made_15 : decode cX9_made 15 = .ok (.istore 8, 2) := by decide +kernel
theorem dX9_made_17 : decode cX9_made 17 = .ok (.iload_n 2, 1) := by decide +kernel
theorem dX9_made_18 : decode cX9_made 18 = .ok (.tableswitch 188 0 12 #[66, 72, 78, 84, 134, 140, 152, 158, 184, 109, 146, 188, 164], 66) := by decide +kernel
theorem dX9_made_84 : decode cX9_made 84 = .ok (.lload 4, 2) := by decide +kernel
theorem dX9_made_86 : decode cX9_made 86 = .ok (.lload 6, 2) := by decide +kernel
theorem dX9_made_88 : decode cX9_made 88 = .ok (.ladd, 1) := by decide +kernel
theorem dX9_made_89 : decode cX9_made 89 = .ok (.lreturn, 1) := by decide +kernel
theorem dX9_made_90 : decode cX9_made 90 = .ok (.lload 4, 2) := by decide +kernel
theorem dX9_made_92 : decode cX9_made 92 = .ok (.lload 6, 2) := by decide +kernel
theorem dX9_made_94 : decode cX9_made 94 = .ok (.lsub, 1) := by decide +kernel
theorem dX9_made_95 : decode cX9_made 95 = .ok (.lreturn, 1) := by decide +kernel
theorem dX9_made_96 : decode cX9_made 96 = .ok (.lload 4, 2) := by decide +kernel
theorem dX9_made_98 : decode cX9_made 98 = .ok (.lload 6, 2) := by decide +kernel
theorem dX9_made_100 : decode cX9_made 100 = .ok (.lmul, 1) := by decide +kernel
theorem dX9_made_101 : decode cX9_made 101 = .ok (.lreturn, 1) := by decide +kernel
theorem dX9_made_102 : decode cX9_made 102 = .ok (.lload 4, 2) := by decide +kernel
theorem dX9_made_104 : decode cX9_made 104 = .ok (.lload 6, 2) := by decide +kernel
theorem dX9_made_106 : decode cX9_made 106 = .ok (.iload_n 3, 1) := by decide +kernel
theorem dX9_made_107 : decode cX9_made 107 = .ok (.aload_n 0, 1) := by decide +kernel
theorem dX9_made_108 : decode cX9_made 108 = .ok (.getfield 19, 3) := by decide +kernel
theorem dX9_made_111 : decode cX9_made 111 = .ok (.iload_n 1, 1) := by decide +kernel
theorem dX9_made_112 : decode cX9_made 112 = .ok (.iaload, 1) := by decide +kernel
theorem dX9_made_113 : decode cX9_made 113 = .ok (.iconst 1, 1) := by decide +kernel
theorem dX9_made_114 : decode cX9_made 114 = .ok (.if_icmp .ne 7, 3) := by decide +kernel
theorem dX9_made_117 : decode cX9_made 117 = .ok (.iconst 1, 1) := by decide +kernel
theorem dX9_made_118 : decode cX9_made 118 = .ok (.goto 4, 3) := by decide +kernel
theorem dX9_made_121 : decode cX9_made 121 = .ok (.iconst 0, 1) := by decide +kernel
theorem dX9_made_122 : decode cX9_made 122 = .ok (.iconst 0, 1) := by decide +kernel
theorem dX9_made_123 : decode cX9_made 123 = .ok (.invokestatic 198, 3) := by decide +kernel
theorem dX9_made_126 : decode cX9_made 126 = .ok (.lreturn, 1) := by decide +kernel
theorem dX9_made_127 : decode cX9_made 127 = .ok (.lload 4, 2) := by decide +kernel
theorem dX9_made_129 : decode cX9_made 129 = .ok (.lload 6, 2) := by decide +kernel
theorem dX9_made_131 : decode cX9_made 131 = .ok (.iload_n 3, 1) := by decide +kernel
theorem dX9_made_132 : decode cX9_made 132 = .ok (.aload_n 0, 1) := by decide +kernel
theorem dX9_made_133 : decode cX9_made 133 = .ok (.getfield 19, 3) := by decide +kernel
theorem dX9_made_136 : decode cX9_made 136 = .ok (.iload_n 1, 1) := by decide +kernel
theorem dX9_made_137 : decode cX9_made 137 = .ok (.iaload, 1) := by decide +kernel
theorem dX9_made_138 : decode cX9_made 138 = .ok (.iconst 1, 1) := by decide +kernel
theorem dX9_made_139 : decode cX9_made 139 = .ok (.if_icmp .ne 7, 3) := by decide +kernel
theorem dX9_made_142 : decode cX9_made 142 = .ok (.iconst 1, 1) := by decide +kernel
theorem dX9_made_143 : decode cX9_made 143 = .ok (.goto 4, 3) := by decide +kernel
theorem dX9_made_146 : decode cX9_made 146 = .ok (.iconst 0, 1) := by decide +kernel
theorem dX9_made_147 : decode cX9_made 147 = .ok (.iconst 1, 1) := by decide +kernel
theorem dX9_made_148 : decode cX9_made 148 = .ok (.invokestatic 198, 3) := by decide +kernel
theorem dX9_made_151 : decode cX9_made 151 = .ok (.lreturn, 1) := by decide +kernel
theorem dX9_made_152 : decode cX9_made 152 = .ok (.lload 4, 2) := by decide +kernel
theorem dX9_made_154 : decode cX9_made 154 = .ok (.lload 6, 2) := by decide +kernel
theorem dX9_made_156 : decode cX9_made 156 = .ok (.lor, 1) := by decide +kernel
theorem dX9_made_157 : decode cX9_made 157 = .ok (.lreturn, 1) := by decide +kernel
theorem dX9_made_158 : decode cX9_made 158 = .ok (.lload 4, 2) := by decide +kernel
theorem dX9_made_160 : decode cX9_made 160 = .ok (.lload 6, 2) := by decide +kernel
theorem dX9_made_162 : decode cX9_made 162 = .ok (.land, 1) := by decide +kernel
theorem dX9_made_163 : decode cX9_made 163 = .ok (.lreturn, 1) := by decide +kernel
theorem dX9_made_164 : decode cX9_made 164 = .ok (.lload 4, 2) := by decide +kernel
theorem dX9_made_166 : decode cX9_made 166 = .ok (.lload 6, 2) := by decide +kernel
theorem dX9_made_168 : decode cX9_made 168 = .ok (.lxor, 1) := by decide +kernel
theorem dX9_made_169 : decode cX9_made 169 = .ok (.lreturn, 1) := by decide +kernel
theorem dX9_made_170 : decode cX9_made 170 = .ok (.lload 4, 2) := by decide +kernel
theorem dX9_made_172 : decode cX9_made 172 = .ok (.iload 8, 2) := by decide +kernel
theorem dX9_made_174 : decode cX9_made 174 = .ok (.lshl, 1) := by decide +kernel
theorem dX9_made_175 : decode cX9_made 175 = .ok (.lreturn, 1) := by decide +kernel
theorem dX9_made_176 : decode cX9_made 176 = .ok (.lload 4, 2) := by decide +kernel
theorem dX9_made_178 : decode cX9_made 178 = .ok (.iload 8, 2) := by decide +kernel
theorem dX9_made_180 : decode cX9_made 180 = .ok (.lushr, 1) := by decide +kernel
theorem dX9_made_181 : decode cX9_made 181 = .ok (.lreturn, 1) := by decide +kernel
theorem dX9_made_182 : decode cX9_made 182 = .ok (.iload_n 3, 1) := by decide +kernel
theorem dX9_made_183 : decode cX9_made 183 = .ok (.ifCond .eq 8, 3) := by decide +kernel
theorem dX9_made_186 : decode cX9_made 186 = .ok (.lload 4, 2) := by decide +kernel
theorem dX9_made_188 : decode cX9_made 188 = .ok (.goto 10, 3) := by decide +kernel
theorem dX9_made_191 : decode cX9_made 191 = .ok (.lload 4, 2) := by decide +kernel
theorem dX9_made_193 : decode cX9_made 193 = .ok (.bipush 32, 2) := by decide +kernel
theorem dX9_made_195 : decode cX9_made 195 = .ok (.invokestatic 183, 3) := by decide +kernel
theorem dX9_made_198 : decode cX9_made 198 = .ok (.iload 8, 2) := by decide +kernel
theorem dX9_made_200 : decode cX9_made 200 = .ok (.lshr, 1) := by decide +kernel
theorem dX9_made_201 : decode cX9_made 201 = .ok (.lreturn, 1) := by decide +kernel
theorem dX9_made_202 : decode cX9_made 202 = .ok (.lload 4, 2) := by decide +kernel
theorem dX9_made_204 : decode cX9_made 204 = .ok (.lneg, 1) := by decide +kernel
theorem dX9_made_205 : decode cX9_made 205 = .ok (.lreturn, 1) := by decide +kernel
theorem dX9_made_206 : decode cX9_made 206 = .ok (.aload_n 0, 1) := by decide +kernel
theorem dX9_made_207 : decode cX9_made 207 = .ok (.getfield 19, 3) := by decide +kernel
theorem dX9_made_210 : decode cX9_made 210 = .ok (.iload_n 1, 1) := by decide +kernel
theorem dX9_made_211 : decode cX9_made 211 = .ok (.iaload, 1) := by decide +kernel
theorem dX9_made_212 : decode cX9_made 212 = .ok (.ifCond .ne 8, 3) := by decide +kernel
theorem dX9_made_215 : decode cX9_made 215 = .ok (.lload 6, 2) := by decide +kernel
theorem dX9_made_217 : decode cX9_made 217 = .ok (.goto 14, 3) := by decide +kernel
theorem dX9_made_220 : decode cX9_made 220 = .ok (.lload 6, 2) := by decide +kernel
theorem dX9_made_222 : decode cX9_made 222 = .ok (.aload_n 0, 1) := by decide +kernel
theorem dX9_made_223 : decode cX9_made 223 = .ok (.getfield 19, 3) := by decide +kernel
theorem dX9_made_226 : decode cX9_made 226 = .ok (.iload_n 1, 1) := by decide +kernel
theorem dX9_made_227 : decode cX9_made 227 = .ok (.iaload, 1) := by decide +kernel
theorem dX9_made_228 : decode cX9_made 228 = .ok (.invokestatic 183, 3) := by decide +kernel
theorem dX9_made_231 : decode cX9_made 231 = .ok (.lreturn, 1) := by decide +kernel
theorem dX9_reckon_0 : decode cX9_reckon 0 = .ok (.aload_n 0, 1) := by decide +kernel
theorem dX9_reckon_1 : decode cX9_reckon 1 = .ok (.getfield 7, 3) := by decide +kernel
theorem dX9_reckon_4 : decode cX9_reckon 4 = .ok (.iload_n 1, 1) := by decide +kernel
theorem dX9_reckon_5 : decode cX9_reckon 5 = .ok (.iaload, 1) := by decide +kernel
theorem dX9_reckon_6 : decode cX9_reckon 6 = .ok (.bipush 7, 2) := by decide +kernel
theorem dX9_reckon_8 : decode cX9_reckon 8 = .ok (.iand, 1) := by decide +kernel
theorem dX9_reckon_9 : decode cX9_reckon 9 = .ok (.bipush 7, 2) := by decide +kernel
theorem dX9_reckon_11 : decode cX9_reckon 11 = .ok (.if_icmp .ne 7, 3) := by decide +kernel
theorem dX9_reckon_14 : decode cX9_reckon 14 = .ok (.iconst 1, 1) := by decide +kernel
theorem dX9_reckon_15 : decode cX9_reckon 15 = .ok (.goto 4, 3) := by decide +kernel
theorem dX9_reckon_18 : decode cX9_reckon 18 = .ok (.iconst 0, 1) := by decide +kernel
theorem dX9_reckon_19 : decode cX9_reckon 19 = .ok (.istore 6, 2) := by decide +kernel
theorem dX9_reckon_21 : decode cX9_reckon 21 = .ok (.aload_n 0, 1) := by decide +kernel
theorem dX9_reckon_22 : decode cX9_reckon 22 = .ok (.getfield 7, 3) := by decide +kernel
theorem dX9_reckon_25 : decode cX9_reckon 25 = .ok (.iload_n 1, 1) := by decide +kernel
theorem dX9_reckon_26 : decode cX9_reckon 26 = .ok (.iaload, 1) := by decide +kernel
theorem dX9_reckon_27 : decode cX9_reckon 27 = .ok (.iconst 4, 1) := by decide +kernel
theorem dX9_reckon_28 : decode cX9_reckon 28 = .ok (.ishr, 1) := by decide +kernel
theorem dX9_reckon_29 : decode cX9_reckon 29 = .ok (.istore 7, 2) := by decide +kernel
theorem dX9_reckon_31 : decode cX9_reckon 31 = .ok (.iload 7, 2) := by decide +kernel
theorem dX9_reckon_33 : decode cX9_reckon 33 = .ok (.bipush 13, 2) := by decide +kernel
theorem dX9_reckon_35 : decode cX9_reckon 35 = .ok (.if_icmp .ne 66, 3) := by decide +kernel
theorem dX9_reckon_38 : decode cX9_reckon 38 = .ok (.aload_n 0, 1) := by decide +kernel
theorem dX9_reckon_39 : decode cX9_reckon 39 = .ok (.getfield 22, 3) := by decide +kernel
theorem dX9_reckon_42 : decode cX9_reckon 42 = .ok (.iload_n 1, 1) := by decide +kernel
theorem dX9_reckon_43 : decode cX9_reckon 43 = .ok (.iaload, 1) := by decide +kernel
theorem dX9_reckon_44 : decode cX9_reckon 44 = .ok (.bipush 64, 2) := by decide +kernel
theorem dX9_reckon_46 : decode cX9_reckon 46 = .ok (.if_icmp .ne 7, 3) := by decide +kernel
theorem dX9_reckon_49 : decode cX9_reckon 49 = .ok (.lload_n 2, 1) := by decide +kernel
theorem dX9_reckon_50 : decode cX9_reckon 50 = .ok (.goto 15, 3) := by decide +kernel
theorem dX9_reckon_53 : decode cX9_reckon 53 = .ok (.lload_n 2, 1) := by decide +kernel
theorem dX9_reckon_54 : decode cX9_reckon 54 = .ok (.lconst 1, 1) := by decide +kernel
theorem dX9_reckon_55 : decode cX9_reckon 55 = .ok (.aload_n 0, 1) := by decide +kernel
theorem dX9_reckon_56 : decode cX9_reckon 56 = .ok (.getfield 22, 3) := by decide +kernel
theorem dX9_reckon_59 : decode cX9_reckon 59 = .ok (.iload_n 1, 1) := by decide +kernel
theorem dX9_reckon_60 : decode cX9_reckon 60 = .ok (.iaload, 1) := by decide +kernel
theorem dX9_reckon_61 : decode cX9_reckon 61 = .ok (.lshl, 1) := by decide +kernel
theorem dX9_reckon_62 : decode cX9_reckon 62 = .ok (.lconst 1, 1) := by decide +kernel
theorem dX9_reckon_63 : decode cX9_reckon 63 = .ok (.lsub, 1) := by decide +kernel
theorem dX9_reckon_64 : decode cX9_reckon 64 = .ok (.land, 1) := by decide +kernel
theorem dX9_reckon_65 : decode cX9_reckon 65 = .ok (.lstore 8, 2) := by decide +kernel
theorem dX9_reckon_67 : decode cX9_reckon 67 = .ok (.iload 6, 2) := by decide +kernel
theorem dX9_reckon_69 : decode cX9_reckon 69 = .ok (.ifCond .ne 20, 3) := by decide +kernel
theorem dX9_reckon_72 : decode cX9_reckon 72 = .ok (.aload_n 0, 1) := by decide +kernel
theorem dX9_reckon_73 : decode cX9_reckon 73 = .ok (.getfield 7, 3) := by decide +kernel
theorem dX9_reckon_76 : decode cX9_reckon 76 = .ok (.iload_n 1, 1) := by decide +kernel
theorem dX9_reckon_77 : decode cX9_reckon 77 = .ok (.iaload, 1) := by decide +kernel
theorem dX9_reckon_78 : decode cX9_reckon 78 = .ok (.bipush 8, 2) := by decide +kernel
theorem dX9_reckon_80 : decode cX9_reckon 80 = .ok (.iand, 1) := by decide +kernel
theorem dX9_reckon_81 : decode cX9_reckon 81 = .ok (.ifCond .ne 8, 3) := by decide +kernel
theorem dX9_reckon_84 : decode cX9_reckon 84 = .ok (.lload 8, 2) := by decide +kernel
theorem dX9_reckon_86 : decode cX9_reckon 86 = .ok (.goto 14, 3) := by decide +kernel
theorem dX9_reckon_89 : decode cX9_reckon 89 = .ok (.lload 8, 2) := by decide +kernel
theorem dX9_reckon_91 : decode cX9_reckon 91 = .ok (.aload_n 0, 1) := by decide +kernel
theorem dX9_reckon_92 : decode cX9_reckon 92 = .ok (.getfield 22, 3) := by decide +kernel
theorem dX9_reckon_95 : decode cX9_reckon 95 = .ok (.iload_n 1, 1) := by decide +kernel
theorem dX9_reckon_96 : decode cX9_reckon 96 = .ok (.iaload, 1) := by decide +kernel
theorem dX9_reckon_97 : decode cX9_reckon 97 = .ok (.invokestatic 189, 3) := by decide +kernel
theorem dX9_reckon_100 : decode cX9_reckon 100 = .ok (.lreturn, 1) := by decide +kernel
theorem dX9_reckon_101 : decode cX9_reckon 101 = .ok (.iload 6, 2) := by decide +kernel
theorem dX9_reckon_103 : decode cX9_reckon 103 = .ok (.ifCond .eq 7, 3) := by decide +kernel
theorem dX9_reckon_106 : decode cX9_reckon 106 = .ok (.lload_n 2, 1) := by decide +kernel
theorem dX9_reckon_107 : decode cX9_reckon 107 = .ok (.goto 8, 3) := by decide +kernel
theorem dX9_reckon_110 : decode cX9_reckon 110 = .ok (.lload_n 2, 1) := by decide +kernel
theorem dX9_reckon_111 : decode cX9_reckon 111 = .ok (.ldc2_w 192, 3) := by decide +kernel
theorem dX9_reckon_114 : decode cX9_reckon 114 = .ok (.land, 1) := by decide +kernel
theorem dX9_reckon_115 : decode cX9_reckon 115 = .ok (.lstore 8, 2) := by decide +kernel
theorem dX9_reckon_117 : decode cX9_reckon 117 = .ok (.iload 6, 2) := by decide +kernel
theorem dX9_reckon_119 : decode cX9_reckon 119 = .ok (.ifCond .eq 8, 3) := by decide +kernel
theorem dX9_reckon_122 : decode cX9_reckon 122 = .ok (.lload 4, 2) := by decide +kernel
theorem dX9_reckon_124 : decode cX9_reckon 124 = .ok (.goto 9, 3) := by decide +kernel
theorem dX9_reckon_127 : decode cX9_reckon 127 = .ok (.lload 4, 2) := by decide +kernel
theorem dX9_reckon_129 : decode cX9_reckon 129 = .ok (.ldc2_w 192, 3) := by decide +kernel
theorem dX9_reckon_132 : decode cX9_reckon 132 = .ok (.land, 1) := by decide +kernel
theorem dX9_reckon_133 : decode cX9_reckon 133 = .ok (.lstore 10, 2) := by decide +kernel
theorem dX9_reckon_135 : decode cX9_reckon 135 = .ok (.aload_n 0, 1) := by decide +kernel
theorem dX9_reckon_136 : decode cX9_reckon 136 = .ok (.iload_n 1, 1) := by decide +kernel
theorem dX9_reckon_137 : decode cX9_reckon 137 = .ok (.iload 7, 2) := by decide +kernel
theorem dX9_reckon_139 : decode cX9_reckon 139 = .ok (.iload 6, 2) := by decide +kernel
theorem dX9_reckon_141 : decode cX9_reckon 141 = .ok (.lload 8, 2) := by decide +kernel
theorem dX9_reckon_143 : decode cX9_reckon 143 = .ok (.lload 10, 2) := by decide +kernel
theorem dX9_reckon_145 : decode cX9_reckon 145 = .ok (.invokevirtual 194, 3) := by decide +kernel
theorem dX9_reckon_148 : decode cX9_reckon 148 = .ok (.lstore 12, 2) := by decide +kernel
theorem dX9_reckon_150 : decode cX9_reckon 150 = .ok (.iload 6, 2) := by decide +kernel
theorem dX9_reckon_152 : decode cX9_reckon 152 = .ok (.ifCond .eq 8, 3) := by decide +kernel
theorem dX9_reckon_155 : decode cX9_reckon 155 = .ok (.lload 12, 2) := by decide +kernel
theorem dX9_reckon_157 : decode cX9_reckon 157 = .ok (.goto 9, 3) := by decide +kernel
theorem dX9_reckon_160 : decode cX9_reckon 160 = .ok (.lload 12, 2) := by decide +kernel
theorem dX9_reckon_162 : decode cX9_reckon 162 = .ok (.ldc2_w 192, 3) := by decide +kernel
theorem dX9_reckon_165 : decode cX9_reckon 165 = .ok (.land, 1) := by decide +kernel
theorem dX9_reckon_166 : decode cX9_reckon 166 = .ok (.lreturn, 1) := by decide +kernel
theorem dX9_second_0 : decode cX9_second 0 = .ok (.aload_n 0, 1) := by decide +kernel
theorem dX9_second_1 : decode cX9_second 1 = .ok (.getfield 7, 3) := by decide +kernel
theorem dX9_second_4 : decode cX9_second 4 = .ok (.iload_n 1, 1) := by decide +kernel
theorem dX9_second_5 : decode cX9_second 5 = .ok (.iaload, 1) := by decide +kernel
theorem dX9_second_6 : decode cX9_second 6 = .ok (.bipush 8, 2) := by decide +kernel
theorem dX9_second_8 : decode cX9_second 8 = .ok (.iand, 1) := by decide +kernel
theorem dX9_second_9 : decode cX9_second 9 = .ok (.ifCond .eq 17, 3) := by decide +kernel
theorem dX9_second_12 : decode cX9_second 12 = .ok (.aload_n 0, 1) := by decide +kernel
theorem dX9_second_13 : decode cX9_second 13 = .ok (.getfield 53, 3) := by decide +kernel
theorem dX9_second_16 : decode cX9_second 16 = .ok (.aload_n 0, 1) := by decide +kernel
theorem dX9_second_17 : decode cX9_second 17 = .ok (.getfield 16, 3) := by decide +kernel
theorem dX9_second_20 : decode cX9_second 20 = .ok (.iload_n 1, 1) := by decide +kernel
theorem dX9_second_21 : decode cX9_second 21 = .ok (.iaload, 1) := by decide +kernel
theorem dX9_second_22 : decode cX9_second 22 = .ok (.laload, 1) := by decide +kernel
theorem dX9_second_23 : decode cX9_second 23 = .ok (.goto 10, 3) := by decide +kernel
theorem dX9_second_26 : decode cX9_second 26 = .ok (.aload_n 0, 1) := by decide +kernel
theorem dX9_second_27 : decode cX9_second 27 = .ok (.getfield 22, 3) := by decide +kernel
theorem dX9_second_30 : decode cX9_second 30 = .ok (.iload_n 1, 1) := by decide +kernel
theorem dX9_second_31 : decode cX9_second 31 = .ok (.iaload, 1) := by decide +kernel
theorem dX9_second_32 : decode cX9_second 32 = .ok (.i2l, 1) := by decide +kernel
theorem dX9_second_33 : decode cX9_second 33 = .ok (.lreturn, 1) := by decide +kernel
theorem dX9_jumps_0 : decode cX9_jumps 0 = .ok (.aload_n 0, 1) := by decide +kernel
theorem dX9_jumps_1 : decode cX9_jumps 1 = .ok (.getfield 7, 3) := by decide +kernel
theorem dX9_jumps_4 : decode cX9_jumps 4 = .ok (.iload_n 1, 1) := by decide +kernel
theorem dX9_jumps_5 : decode cX9_jumps 5 = .ok (.iaload, 1) := by decide +kernel
theorem dX9_jumps_6 : decode cX9_jumps 6 = .ok (.bipush 7, 2) := by decide +kernel
theorem dX9_jumps_8 : decode cX9_jumps 8 = .ok (.iand, 1) := by decide +kernel
theorem dX9_jumps_9 : decode cX9_jumps 9 = .ok (.iconst 5, 1) := by decide +kernel
theorem dX9_jumps_10 : decode cX9_jumps 10 = .ok (.if_icmp .ne 7, 3) := by decide +kernel
theorem dX9_jumps_13 : decode cX9_jumps 13 = .ok (.iconst 1, 1) := by decide +kernel
theorem dX9_jumps_14 : decode cX9_jumps 14 = .ok (.goto 4, 3) := by decide +kernel
theorem dX9_jumps_17 : decode cX9_jumps 17 = .ok (.iconst 0, 1) := by decide +kernel
theorem dX9_jumps_18 : decode cX9_jumps 18 = .ok (.istore 6, 2) := by decide +kernel
theorem dX9_jumps_20 : decode cX9_jumps 20 = .ok (.iload 6, 2) := by decide +kernel
theorem dX9_jumps_22 : decode cX9_jumps 22 = .ok (.ifCond .eq 7, 3) := by decide +kernel
theorem dX9_jumps_25 : decode cX9_jumps 25 = .ok (.lload_n 2, 1) := by decide +kernel
theorem dX9_jumps_26 : decode cX9_jumps 26 = .ok (.goto 8, 3) := by decide +kernel
theorem dX9_jumps_29 : decode cX9_jumps 29 = .ok (.lload_n 2, 1) := by decide +kernel
theorem dX9_jumps_30 : decode cX9_jumps 30 = .ok (.ldc2_w 192, 3) := by decide +kernel
theorem dX9_jumps_33 : decode cX9_jumps 33 = .ok (.land, 1) := by decide +kernel
theorem dX9_jumps_34 : decode cX9_jumps 34 = .ok (.lstore 7, 2) := by decide +kernel
theorem dX9_jumps_36 : decode cX9_jumps 36 = .ok (.iload 6, 2) := by decide +kernel
theorem dX9_jumps_38 : decode cX9_jumps 38 = .ok (.ifCond .eq 8, 3) := by decide +kernel
theorem dX9_jumps_41 : decode cX9_jumps 41 = .ok (.lload 4, 2) := by decide +kernel
theorem dX9_jumps_43 : decode cX9_jumps 43 = .ok (.goto 9, 3) := by decide +kernel
theorem dX9_jumps_46 : decode cX9_jumps 46 = .ok (.lload 4, 2) := by decide +kernel
theorem dX9_jumps_48 : decode cX9_jumps 48 = .ok (.ldc2_w 192, 3) := by decide +kernel
theorem dX9_jumps_51 : decode cX9_jumps 51 = .ok (.land, 1) := by decide +kernel
theorem dX9_jumps_52 : decode cX9_jumps 52 = .ok (.lstore 9, 2) := by decide +kernel
theorem dX9_jumps_54 : decode cX9_jumps 54 = .ok (.iload 6, 2) := by decide +kernel
theorem dX9_jumps_56 : decode cX9_jumps 56 = .ok (.ifCond .eq 7, 3) := by decide +kernel
theorem dX9_jumps_59 : decode cX9_jumps 59 = .ok (.lload_n 2, 1) := by decide +kernel
theorem dX9_jumps_60 : decode cX9_jumps 60 = .ok (.goto 9, 3) := by decide +kernel
theorem dX9_jumps_63 : decode cX9_jumps 63 = .ok (.lload_n 2, 1) := by decide +kernel
theorem dX9_jumps_64 : decode cX9_jumps 64 = .ok (.bipush 32, 2) := by decide +kernel
theorem dX9_jumps_66 : decode cX9_jumps 66 = .ok (.invokestatic 183, 3) := by decide +kernel
theorem dX9_jumps_69 : decode cX9_jumps 69 = .ok (.lstore 11, 2) := by decide +kernel
theorem dX9_jumps_71 : decode cX9_jumps 71 = .ok (.iload 6, 2) := by decide +kernel
theorem dX9_jumps_73 : decode cX9_jumps 73 = .ok (.ifCond .eq 8, 3) := by decide +kernel
theorem dX9_jumps_76 : decode cX9_jumps 76 = .ok (.lload 4, 2) := by decide +kernel
theorem dX9_jumps_78 : decode cX9_jumps 78 = .ok (.goto 10, 3) := by decide +kernel
theorem dX9_jumps_81 : decode cX9_jumps 81 = .ok (.lload 4, 2) := by decide +kernel
theorem dX9_jumps_83 : decode cX9_jumps 83 = .ok (.bipush 32, 2) := by decide +kernel
theorem dX9_jumps_85 : decode cX9_jumps 85 = .ok (.invokestatic 183, 3) := by decide +kernel
theorem dX9_jumps_88 : decode cX9_jumps 88 = .ok (.lstore 13, 2) := by decide +kernel
theorem dX9_jumps_90 : decode cX9_jumps 90 = .ok (.aload_n 0, 1) := by decide +kernel
theorem dX9_jumps_91 : decode cX9_jumps 91 = .ok (.getfield 7, 3) := by decide +kernel
theorem dX9_jumps_94 : decode cX9_jumps 94 = .ok (.iload_n 1, 1) := by decide +kernel
theorem dX9_jumps_95 : decode cX9_jumps 95 = .ok (.iaload, 1) := by decide +kernel
theorem dX9_jumps_96 : decode cX9_jumps 96 = .ok (.iconst 4, 1) := by decide +kernel
theorem dX9_jumps_97 : decode cX9_jumps 97 = .ok (.ishr, 1) := by decide +kernel
theorem dX9_jumps_98 : decode cX9_jumps 98 = .ok (.tableswitch 198 1 13 #[66, 94, 102, 198, 80, 142, 156, 198, 198, 118, 126, 170, 184], 66) := by decide +kernel
theorem dX9_jumps_164 : decode cX9_jumps 164 = .ok (.lload 7, 2) := by decide +kernel
theorem dX9_jumps_166 : decode cX9_jumps 166 = .ok (.lload 9, 2) := by decide +kernel
theorem dX9_jumps_168 : decode cX9_jumps 168 = .ok (.lcmp, 1) := by decide +kernel
theorem dX9_jumps_169 : decode cX9_jumps 169 = .ok (.ifCond .ne 7, 3) := by decide +kernel
theorem dX9_jumps_172 : decode cX9_jumps 172 = .ok (.iconst 1, 1) := by decide +kernel
theorem dX9_jumps_173 : decode cX9_jumps 173 = .ok (.goto 4, 3) := by decide +kernel
theorem dX9_jumps_176 : decode cX9_jumps 176 = .ok (.iconst 0, 1) := by decide +kernel
theorem dX9_jumps_177 : decode cX9_jumps 177 = .ok (.ireturn, 1) := by decide +kernel
theorem dX9_jumps_178 : decode cX9_jumps 178 = .ok (.lload 7, 2) := by decide +kernel
theorem dX9_jumps_180 : decode cX9_jumps 180 = .ok (.lload 9, 2) := by decide +kernel
theorem dX9_jumps_182 : decode cX9_jumps 182 = .ok (.lcmp, 1) := by decide +kernel
theorem dX9_jumps_183 : decode cX9_jumps 183 = .ok (.ifCond .eq 7, 3) := by decide +kernel
theorem dX9_jumps_186 : decode cX9_jumps 186 = .ok (.iconst 1, 1) := by decide +kernel
theorem dX9_jumps_187 : decode cX9_jumps 187 = .ok (.goto 4, 3) := by decide +kernel
theorem dX9_jumps_190 : decode cX9_jumps 190 = .ok (.iconst 0, 1) := by decide +kernel
theorem dX9_jumps_191 : decode cX9_jumps 191 = .ok (.ireturn, 1) := by decide +kernel
theorem dX9_jumps_192 : decode cX9_jumps 192 = .ok (.lload 9, 2) := by decide +kernel
theorem dX9_jumps_194 : decode cX9_jumps 194 = .ok (.lload 7, 2) := by decide +kernel
theorem dX9_jumps_196 : decode cX9_jumps 196 = .ok (.invokestatic 175, 3) := by decide +kernel
theorem dX9_jumps_199 : decode cX9_jumps 199 = .ok (.ireturn, 1) := by decide +kernel
theorem dX9_jumps_200 : decode cX9_jumps 200 = .ok (.lload 7, 2) := by decide +kernel
theorem dX9_jumps_202 : decode cX9_jumps 202 = .ok (.lload 9, 2) := by decide +kernel
theorem dX9_jumps_204 : decode cX9_jumps 204 = .ok (.invokestatic 175, 3) := by decide +kernel
theorem dX9_jumps_207 : decode cX9_jumps 207 = .ok (.ifCond .ne 7, 3) := by decide +kernel
theorem dX9_jumps_210 : decode cX9_jumps 210 = .ok (.iconst 1, 1) := by decide +kernel
theorem dX9_jumps_211 : decode cX9_jumps 211 = .ok (.goto 4, 3) := by decide +kernel
theorem dX9_jumps_214 : decode cX9_jumps 214 = .ok (.iconst 0, 1) := by decide +kernel
theorem dX9_jumps_215 : decode cX9_jumps 215 = .ok (.ireturn, 1) := by decide +kernel
theorem dX9_jumps_216 : decode cX9_jumps 216 = .ok (.lload 7, 2) := by decide +kernel
theorem dX9_jumps_218 : decode cX9_jumps 218 = .ok (.lload 9, 2) := by decide +kernel
theorem dX9_jumps_220 : decode cX9_jumps 220 = .ok (.invokestatic 175, 3) := by decide +kernel
theorem dX9_jumps_223 : decode cX9_jumps 223 = .ok (.ireturn, 1) := by decide +kernel
theorem dX9_jumps_224 : decode cX9_jumps 224 = .ok (.lload 9, 2) := by decide +kernel
theorem dX9_jumps_226 : decode cX9_jumps 226 = .ok (.lload 7, 2) := by decide +kernel
theorem dX9_jumps_228 : decode cX9_jumps 228 = .ok (.invokestatic 175, 3) := by decide +kernel
theorem dX9_jumps_231 : decode cX9_jumps 231 = .ok (.ifCond .ne 7, 3) := by decide +kernel
theorem dX9_jumps_234 : decode cX9_jumps 234 = .ok (.iconst 1, 1) := by decide +kernel
theorem dX9_jumps_235 : decode cX9_jumps 235 = .ok (.goto 4, 3) := by decide +kernel
theorem dX9_jumps_238 : decode cX9_jumps 238 = .ok (.iconst 0, 1) := by decide +kernel
theorem dX9_jumps_239 : decode cX9_jumps 239 = .ok (.ireturn, 1) := by decide +kernel
theorem dX9_jumps_240 : decode cX9_jumps 240 = .ok (.lload 11, 2) := by decide +kernel
theorem dX9_jumps_242 : decode cX9_jumps 242 = .ok (.lload 13, 2) := by decide +kernel
theorem dX9_jumps_244 : decode cX9_jumps 244 = .ok (.lcmp, 1) := by decide +kernel
theorem dX9_jumps_245 : decode cX9_jumps 245 = .ok (.ifCond .le 7, 3) := by decide +kernel
theorem dX9_jumps_248 : decode cX9_jumps 248 = .ok (.iconst 1, 1) := by decide +kernel
theorem dX9_jumps_249 : decode cX9_jumps 249 = .ok (.goto 4, 3) := by decide +kernel
theorem dX9_jumps_252 : decode cX9_jumps 252 = .ok (.iconst 0, 1) := by decide +kernel
theorem dX9_jumps_253 : decode cX9_jumps 253 = .ok (.ireturn, 1) := by decide +kernel
theorem dX9_jumps_254 : decode cX9_jumps 254 = .ok (.lload 11, 2) := by decide +kernel
theorem dX9_jumps_256 : decode cX9_jumps 256 = .ok (.lload 13, 2) := by decide +kernel
theorem dX9_jumps_258 : decode cX9_jumps 258 = .ok (.lcmp, 1) := by decide +kernel
theorem dX9_jumps_259 : decode cX9_jumps 259 = .ok (.ifCond .lt 7, 3) := by decide +kernel
theorem dX9_jumps_262 : decode cX9_jumps 262 = .ok (.iconst 1, 1) := by decide +kernel
theorem dX9_jumps_263 : decode cX9_jumps 263 = .ok (.goto 4, 3) := by decide +kernel
theorem dX9_jumps_266 : decode cX9_jumps 266 = .ok (.iconst 0, 1) := by decide +kernel
theorem dX9_jumps_267 : decode cX9_jumps 267 = .ok (.ireturn, 1) := by decide +kernel
theorem dX9_jumps_268 : decode cX9_jumps 268 = .ok (.lload 11, 2) := by decide +kernel
theorem dX9_jumps_270 : decode cX9_jumps 270 = .ok (.lload 13, 2) := by decide +kernel
theorem dX9_jumps_272 : decode cX9_jumps 272 = .ok (.lcmp, 1) := by decide +kernel
theorem dX9_jumps_273 : decode cX9_jumps 273 = .ok (.ifCond .ge 7, 3) := by decide +kernel
theorem dX9_jumps_276 : decode cX9_jumps 276 = .ok (.iconst 1, 1) := by decide +kernel
theorem dX9_jumps_277 : decode cX9_jumps 277 = .ok (.goto 4, 3) := by decide +kernel
theorem dX9_jumps_280 : decode cX9_jumps 280 = .ok (.iconst 0, 1) := by decide +kernel
theorem dX9_jumps_281 : decode cX9_jumps 281 = .ok (.ireturn, 1) := by decide +kernel
theorem dX9_jumps_282 : decode cX9_jumps 282 = .ok (.lload 11, 2) := by decide +kernel
theorem dX9_jumps_284 : decode cX9_jumps 284 = .ok (.lload 13, 2) := by decide +kernel
theorem dX9_jumps_286 : decode cX9_jumps 286 = .ok (.lcmp, 1) := by decide +kernel
theorem dX9_jumps_287 : decode cX9_jumps 287 = .ok (.ifCond .gt 7, 3) := by decide +kernel
theorem dX9_jumps_290 : decode cX9_jumps 290 = .ok (.iconst 1, 1) := by decide +kernel
theorem dX9_jumps_291 : decode cX9_jumps 291 = .ok (.goto 4, 3) := by decide +kernel
theorem dX9_jumps_294 : decode cX9_jumps 294 = .ok (.iconst 0, 1) := by decide +kernel
theorem dX9_jumps_295 : decode cX9_jumps 295 = .ok (.ireturn, 1) := by decide +kernel
theorem dX9_jumps_296 : decode cX9_jumps 296 = .ok (.lload 7, 2) := by decide +kernel
theorem dX9_jumps_298 : decode cX9_jumps 298 = .ok (.lload 9, 2) := by decide +kernel
theorem dX9_jumps_300 : decode cX9_jumps 300 = .ok (.land, 1) := by decide +kernel
theorem dX9_jumps_301 : decode cX9_jumps 301 = .ok (.lconst 0, 1) := by decide +kernel
theorem dX9_jumps_302 : decode cX9_jumps 302 = .ok (.lcmp, 1) := by decide +kernel
theorem dX9_jumps_303 : decode cX9_jumps 303 = .ok (.ifCond .eq 7, 3) := by decide +kernel
theorem dX9_jumps_306 : decode cX9_jumps 306 = .ok (.iconst 1, 1) := by decide +kernel
theorem dX9_jumps_307 : decode cX9_jumps 307 = .ok (.goto 4, 3) := by decide +kernel
theorem dX9_jumps_310 : decode cX9_jumps 310 = .ok (.iconst 0, 1) := by decide +kernel
theorem dX9_jumps_311 : decode cX9_jumps 311 = .ok (.ireturn, 1) := by decide +kernel
theorem dX9_tableOf_0 : decode cX9_tableOf 0 = .ok (.lload_n 1, 1) := by decide +kernel
theorem dX9_tableOf_1 : decode cX9_tableOf 1 = .ok (.ldc2_w 202, 3) := by decide +kernel
theorem dX9_tableOf_4 : decode cX9_tableOf 4 = .ok (.lsub, 1) := by decide +kernel
theorem dX9_tableOf_5 : decode cX9_tableOf 5 = .ok (.bipush 24, 2) := by decide +kernel
theorem dX9_tableOf_7 : decode cX9_tableOf 7 = .ok (.lshr, 1) := by decide +kernel
theorem dX9_tableOf_8 : decode cX9_tableOf 8 = .ok (.lstore_n 3, 1) := by decide +kernel
theorem dX9_tableOf_9 : decode cX9_tableOf 9 = .ok (.lload_n 1, 1) := by decide +kernel
theorem dX9_tableOf_10 : decode cX9_tableOf 10 = .ok (.ldc2_w 202, 3) := by decide +kernel
theorem dX9_tableOf_13 : decode cX9_tableOf 13 = .ok (.lcmp, 1) := by decide +kernel
theorem dX9_tableOf_14 : decode cX9_tableOf 14 = .ok (.ifCond .lt 18, 3) := by decide +kernel
theorem dX9_tableOf_17 : decode cX9_tableOf 17 = .ok (.lload_n 3, 1) := by decide +kernel
theorem dX9_tableOf_18 : decode cX9_tableOf 18 = .ok (.aload_n 0, 1) := by decide +kernel
theorem dX9_tableOf_19 : decode cX9_tableOf 19 = .ok (.getfield 204, 3) := by decide +kernel
theorem dX9_tableOf_22 : decode cX9_tableOf 22 = .ok (.i2l, 1) := by decide +kernel
theorem dX9_tableOf_23 : decode cX9_tableOf 23 = .ok (.lcmp, 1) := by decide +kernel
theorem dX9_tableOf_24 : decode cX9_tableOf 24 = .ok (.ifCond .ge 8, 3) := by decide +kernel
theorem dX9_tableOf_27 : decode cX9_tableOf 27 = .ok (.lload_n 3, 1) := by decide +kernel
theorem dX9_tableOf_28 : decode cX9_tableOf 28 = .ok (.l2i, 1) := by decide +kernel
theorem dX9_tableOf_29 : decode cX9_tableOf 29 = .ok (.goto 4, 3) := by decide +kernel
theorem dX9_tableOf_32 : decode cX9_tableOf 32 = .ok (.iconst (-1), 1) := by decide +kernel
theorem dX9_tableOf_33 : decode cX9_tableOf 33 = .ok (.ireturn, 1) := by decide +kernel
-- JudgedCodeModel.divided
def f_X9_divided_77 (x6 : Int32) (x7 : Int64) (xs0 : Int64) : Option Int64 := if (lg_cmp xs0 (-1 : Int64)) = 0 then (if x6 = 0 then (some (-x7)) else (some (0 : Int64))) else (if x6 = 0 then (ck (¬ xs0 = 0) <| some (x7 / xs0)) else (ck (¬ xs0 = 0) <| some (x7 - x7 / xs0 * xs0)))
def f_X9_divided_60 (x2 : Int64) (x4 : Int32) (x6 : Int32) (xs0 : Int64) : Option Int64 := if x4 = 0 then (pq (f_X9_signed x2 (32 : Int32)) fun r27 => f_X9_divided_77 x6 xs0 r27) else (f_X9_divided_77 x6 xs0 x2)
def f_X9_divided (x0 : Int64) (x2 : Int64) (x4 : Int32) (x5 : Int32) (x6 : Int32) : Option Int64 := if (lg_cmp x2 (0 : Int64)) = 0 then (if x6 = 0 then (some (0 : Int64)) else (some x0)) else (if x5 = 0 then (if x6 = 0 then (pq (f_X9_over x0 x2) fun r35 => some r35) else (pq (f_X9_over x0 x2) fun r37 => some (x0 - (r37 * x2)))) else (if x4 = 0 then (pq (f_X9_signed x0 (32 : Int32)) fun r32 => f_X9_divided_60 x2 x4 x6 r32) else (f_X9_divided_60 x2 x4 x6 x0)))
-- JudgedCodeModel.made
def f_X9_made_122 (S : sh) (D : dt) (xs0 : Int64) (xs1 : Int64) (xs2 : Int32) (xs3 : Int32) : Option Int64 := pq (f_X9_divided xs0 xs1 xs2 xs3 (0 : Int32)) fun r49 => some r49
def f_X9_made_147 (S : sh) (D : dt) (xs0 : Int64) (xs1 : Int64) (xs2 : Int32) (xs3 : Int32) : Option Int64 := pq (f_X9_divided xs0 xs1 xs2 xs3 (1 : Int32)) fun r51 => some r51
def f_X9_made_206 (S : sh) (D : dt) (o0 : Nat) (x1 : Int32) (x6 : Int64) : Option Int64 := rq (gR D o0 4) fun o52 => ix x1 (sA S o52) <| if (gI D o52 x1.toNatClampNeg) = 0 then (some x6) else (rq (gR D o0 4) fun o58 => ix x1 (sA S o58) <| pq (f_X9_signed x6 (gI D o58 x1.toNatClampNeg)) fun r64 => some r64)
def f_X9_made_198 (S : sh) (D : dt) (x8 : Int32) (xs0 : Int64) : Option Int64 := some (j_lshr xs0 x8)
def f_X9_made_14 (S : sh) (D : dt) (o0 : Nat) (x1 : Int32) (x2 : Int32) (x3 : Int32) (x4 : Int64) (x6 : Int64) (xs0 : Int32) (xs1 : Int32) : Option Int64 := nm (xs0 &&& xs1) fun y65 => if x2 = 0 then (some (x4 + x6)) else if x2 = 1 then (some (x4 - x6)) else if x2 = 2 then (some (x4 * x6)) else if x2 = 3 then (rq (gR D o0 4) fun o70 => ix x1 (sA S o70) <| if (gI D o70 x1.toNatClampNeg) = (1 : Int32) then (f_X9_made_122 S D x4 x6 x3 (1 : Int32)) else (f_X9_made_122 S D x4 x6 x3 (0 : Int32))) else if x2 = 4 then (some (x4 ||| x6)) else if x2 = 5 then (some (x4 &&& x6)) else if x2 = 6 then (some (j_lshl x4 y65)) else if x2 = 7 then (some (j_lushr x4 y65)) else if x2 = 8 then (some (-x4)) else if x2 = 9 then (rq (gR D o0 4) fun o82 => ix x1 (sA S o82) <| if (gI D o82 x1.toNatClampNeg) = (1 : Int32) then (f_X9_made_147 S D x4 x6 x3 (1 : Int32)) else (f_X9_made_147 S D x4 x6 x3 (0 : Int32))) else if x2 = 10 then (some (x4 ^^^ x6)) else if x2 = 11 then (f_X9_made_206 S D o0 x1 x6) else if x2 = 12 then (if x3 = 0 then (pq (f_X9_signed x4 (32 : Int32)) fun r93 => f_X9_made_198 S D y65 r93) else (f_X9_made_198 S D y65 x4)) else (f_X9_made_206 S D o0 x1 x6)
def f_X9_made (S : sh) (D : dt) (o0 : Nat) (x1 : Int32) (x2 : Int32) (x3 : Int32) (x4 : Int64) (x6 : Int64) : Option Int64 := if x3 = 0 then (f_X9_made_14 S D o0 x1 x2 x3 x4 x6 x6.toInt32 (31 : Int32)) else (f_X9_made_14 S D o0 x1 x2 x3 x4 x6 x6.toInt32 (63 : Int32))
-- JudgedCodeModel.reckon
def f_X9_reckon_89 (S : sh) (D : dt) (o0 : Nat) (x1 : Int32) (x8 : Int64) : Option Int64 := rq (gR D o0 5) fun o44 => ix x1 (sA S o44) <| pq (f_X9_turned x8 (gI D o44 x1.toNatClampNeg)) fun r50 => some r50
def f_X9_reckon_65 (S : sh) (D : dt) (o0 : Nat) (x1 : Int32) (x6 : Int32) (xs0 : Int64) : Option Int64 := if x6 = 0 then (rq (gR D o0 1) fun o52 => ix x1 (sA S o52) <| if ((gI D o52 x1.toNatClampNeg) &&& (8 : Int32)) = 0 then (some xs0) else (f_X9_reckon_89 S D o0 x1 xs0)) else (f_X9_reckon_89 S D o0 x1 xs0)
def f_X9_reckon_133 (S : sh) (D : dt) (o0 : Nat) (x1 : Int32) (x6 : Int32) (x7 : Int32) (x8 : Int64) (xs0 : Int64) : Option Int64 := pq (f_X9_made S D o0 x1 x7 x6 x8 xs0) fun r59 => if x6 = 0 then (some (r59 &&& (4294967295 : Int64))) else (some r59)
def f_X9_reckon_115 (S : sh) (D : dt) (o0 : Nat) (x1 : Int32) (x4 : Int64) (x6 : Int32) (x7 : Int32) (xs0 : Int64) : Option Int64 := if x6 = 0 then (f_X9_reckon_133 S D o0 x1 x6 x7 xs0 (x4 &&& (4294967295 : Int64))) else (f_X9_reckon_133 S D o0 x1 x6 x7 xs0 x4)
def f_X9_reckon_19 (S : sh) (D : dt) (o0 : Nat) (x1 : Int32) (x2 : Int64) (x4 : Int64) (xs0 : Int32) : Option Int64 := rq (gR D o0 1) fun o62 => ix x1 (sA S o62) <| nm ((gI D o62 x1.toNatClampNeg) >>> ((4 : Int32) &&& 31)) fun y67 => if y67 = (13 : Int32) then (rq (gR D o0 5) fun o70 => ix x1 (sA S o70) <| if (gI D o70 x1.toNatClampNeg) = (64 : Int32) then (f_X9_reckon_65 S D o0 x1 xs0 x2) else (rq (gR D o0 5) fun o76 => ix x1 (sA S o76) <| f_X9_reckon_65 S D o0 x1 xs0 (x2 &&& ((j_lshl (1 : Int64) (gI D o76 x1.toNatClampNeg)) - (1 : Int64))))) else (if xs0 = 0 then (f_X9_reckon_115 S D o0 x1 x4 xs0 y67 (x2 &&& (4294967295 : Int64))) else (f_X9_reckon_115 S D o0 x1 x4 xs0 y67 x2))
def f_X9_reckon (S : sh) (D : dt) (o0 : Nat) (x1 : Int32) (x2 : Int64) (x4 : Int64) : Option Int64 := rq (gR D o0 1) fun o81 => ix x1 (sA S o81) <| if ((gI D o81 x1.toNatClampNeg) &&& (7 : Int32)) = (7 : Int32) then (f_X9_reckon_19 S D o0 x1 x2 x4 (1 : Int32)) else (f_X9_reckon_19 S D o0 x1 x2 x4 (0 : Int32))
-- JudgedCodeModel.second
def f_X9_second (S : sh) (D : dt) (o0 : Nat) (x1 : Int32) : Option Int64 := rq (gR D o0 1) fun o22 => ix x1 (sA S o22) <| if ((gI D o22 x1.toNatClampNeg) &&& (8 : Int32)) = 0 then (rq (gR D o0 5) fun o28 => ix x1 (sA S o28) <| some ((gI D o28 x1.toNatClampNeg).toInt64)) else (rq (gR D o0 21) fun o33 => rq (gR D o0 3) fun o37 => ix x1 (sA S o37) <| ix (gI D o37 x1.toNatClampNeg) (sA S o33) <| some (gL D o33 (gI D o37 x1.toNatClampNeg).toNatClampNeg))
-- JudgedCodeModel.jumps
def f_X9_jumps_296 (S : sh) (D : dt) (x7 : Int64) (x9 : Int64) : Option Int32 := if (lg_cmp (x7 &&& x9) (0 : Int64)) = 0 then (some (0 : Int32)) else (some (1 : Int32))
def f_X9_jumps_88 (S : sh) (D : dt) (o0 : Nat) (x1 : Int32) (x7 : Int64) (x9 : Int64) (x11 : Int64) (xs0 : Int64) : Option Int32 := rq (gR D o0 1) fun o53 => ix x1 (sA S o53) <| if ((gI D o53 x1.toNatClampNeg) >>> ((4 : Int32) &&& 31)) = 1 then (if (lg_cmp x7 x9) = 0 then (some (1 : Int32)) else (some (0 : Int32))) else if ((gI D o53 x1.toNatClampNeg) >>> ((4 : Int32) &&& 31)) = 2 then (pq (f_X9_isBelow x9 x7) fun r62 => ck (r62 = 0 ∨ r62 = 1) <| some r62) else if ((gI D o53 x1.toNatClampNeg) >>> ((4 : Int32) &&& 31)) = 3 then (pq (f_X9_isBelow x7 x9) fun r66 => if r66 = 0 then (some (1 : Int32)) else (some (0 : Int32))) else if ((gI D o53 x1.toNatClampNeg) >>> ((4 : Int32) &&& 31)) = 4 then (f_X9_jumps_296 S D x7 x9) else if ((gI D o53 x1.toNatClampNeg) >>> ((4 : Int32) &&& 31)) = 5 then (if (lg_cmp x7 x9) = 0 then (some (0 : Int32)) else (some (1 : Int32))) else if ((gI D o53 x1.toNatClampNeg) >>> ((4 : Int32) &&& 31)) = 6 then (if (lg_cmp x11 xs0) ≤ 0 then (some (0 : Int32)) else (some (1 : Int32))) else if ((gI D o53 x1.toNatClampNeg) >>> ((4 : Int32) &&& 31)) = 7 then (if (lg_cmp x11 xs0) < 0 then (some (0 : Int32)) else (some (1 : Int32))) else if ((gI D o53 x1.toNatClampNeg) >>> ((4 : Int32) &&& 31)) = 8 then (f_X9_jumps_296 S D x7 x9) else if ((gI D o53 x1.toNatClampNeg) >>> ((4 : Int32) &&& 31)) = 9 then (f_X9_jumps_296 S D x7 x9) else if ((gI D o53 x1.toNatClampNeg) >>> ((4 : Int32) &&& 31)) = 10 then (pq (f_X9_isBelow x7 x9) fun r79 => ck (r79 = 0 ∨ r79 = 1) <| some r79) else if ((gI D o53 x1.toNatClampNeg) >>> ((4 : Int32) &&& 31)) = 11 then (pq (f_X9_isBelow x9 x7) fun r83 => if r83 = 0 then (some (1 : Int32)) else (some (0 : Int32))) else if ((gI D o53 x1.toNatClampNeg) >>> ((4 : Int32) &&& 31)) = 12 then (if 0 ≤ (lg_cmp x11 xs0) then (some (0 : Int32)) else (some (1 : Int32))) else if ((gI D o53 x1.toNatClampNeg) >>> ((4 : Int32) &&& 31)) = 13 then (if 0 < (lg_cmp x11 xs0) then (some (0 : Int32)) else (some (1 : Int32))) else (f_X9_jumps_296 S D x7 x9)
def f_X9_jumps_69 (S : sh) (D : dt) (o0 : Nat) (x1 : Int32) (x4 : Int64) (x6 : Int32) (x7 : Int64) (x9 : Int64) (xs0 : Int64) : Option Int32 := if x6 = 0 then (pq (f_X9_signed x4 (32 : Int32)) fun r91 => f_X9_jumps_88 S D o0 x1 x7 x9 xs0 r91) else (f_X9_jumps_88 S D o0 x1 x7 x9 xs0 x4)
def f_X9_jumps_52 (S : sh) (D : dt) (o0 : Nat) (x1 : Int32) (x2 : Int64) (x4 : Int64) (x6 : Int32) (x7 : Int64) (xs0 : Int64) : Option Int32 := if x6 = 0 then (pq (f_X9_signed x2 (32 : Int32)) fun r94 => f_X9_jumps_69 S D o0 x1 x4 x6 x7 xs0 r94) else (f_X9_jumps_69 S D o0 x1 x4 x6 x7 xs0 x2)
def f_X9_jumps_34 (S : sh) (D : dt) (o0 : Nat) (x1 : Int32) (x2 : Int64) (x4 : Int64) (x6 : Int32) (xs0 : Int64) : Option Int32 := if x6 = 0 then (f_X9_jumps_52 S D o0 x1 x2 x4 x6 xs0 (x4 &&& (4294967295 : Int64))) else (f_X9_jumps_52 S D o0 x1 x2 x4 x6 xs0 x4)
def f_X9_jumps_18 (S : sh) (D : dt) (o0 : Nat) (x1 : Int32) (x2 : Int64) (x4 : Int64) (xs0 : Int32) : Option Int32 := if xs0 = 0 then (f_X9_jumps_34 S D o0 x1 x2 x4 xs0 (x2 &&& (4294967295 : Int64))) else (f_X9_jumps_34 S D o0 x1 x2 x4 xs0 x2)
def f_X9_jumps (S : sh) (D : dt) (o0 : Nat) (x1 : Int32) (x2 : Int64) (x4 : Int64) : Option Int32 := rq (gR D o0 1) fun o97 => ix x1 (sA S o97) <| if ((gI D o97 x1.toNatClampNeg) &&& (7 : Int32)) = (5 : Int32) then (f_X9_jumps_18 S D o0 x1 x2 x4 (1 : Int32)) else (f_X9_jumps_18 S D o0 x1 x2 x4 (0 : Int32))
-- JudgedCodeModel.tableOf
def f_X9_tableOf (S : sh) (D : dt) (o0 : Nat) (x1 : Int64) : Option Int32 := nm (j_lshr (x1 - (34359738368 : Int64)) (24 : Int32)) fun y4 => if (lg_cmp x1 (34359738368 : Int64)) < 0 then (some (-1 : Int32)) else (if 0 ≤ (lg_cmp y4 ((gI D o0 9).toInt64)) then (some (-1 : Int32)) else (some y4.toInt32))
theorem mk_X9_divided : MkS yX9_divided cX9_divided 11 (some .long) 5 := ⟨⟨lk_1353, lk_121, (tb_in (i := 1354) (by decide +kernel) (by decide +kernel))⟩, by decide +kernel⟩
theorem mk_X9_made : MkV yX9_made RX9 cX9_made 9 (some .long) 5 := ⟨⟨lk_1350, lk_72, lk_121, (tb_in (i := 1351) (by decide +kernel) (by decide +kernel))⟩, by decide +kernel⟩
theorem mk_X9_reckon : MkV yX9_reckon RX9 cX9_reckon 14 (some .long) 3 := ⟨⟨lk_1342, lk_71, lk_121, (tb_in (i := 1343) (by decide +kernel) (by decide +kernel))⟩, by decide +kernel⟩
theorem mk_X9_second : MkV yX9_second RX9 cX9_second 2 (some .long) 1 := ⟨⟨lk_1338, lk_70, lk_121, (tb_in (i := 1339) (by decide +kernel) (by decide +kernel))⟩, by decide +kernel⟩
theorem mk_X9_jumps : MkV yX9_jumps RX9 cX9_jumps 15 (some .boolean) 3 := ⟨⟨lk_1368, lk_73, lk_121, (tb_in (i := 1369) (by decide +kernel) (by decide +kernel))⟩, by decide +kernel⟩
theorem mk_X9_tableOf : MkV yX9_tableOf RX9 cX9_tableOf 5 (some .int) 1 := ⟨⟨lk_1274, lk_60, lk_121, (tb_in (i := 1275) (by decide +kernel) (by decide +kernel))⟩, by decide +kernel⟩
section
variable {p : Program} {l : Launch} {e : Env} {R : Room} {s : State} {m : MethodId} {args : Array Value} {below : List Frame} {meth : Method} {c : Code} {H : Heap} {locs : List Loc} {G : va_G} {cA : Nat → ClassId} {S : sh} {D : dt} {ad : Nat → Nat} {A : Nat → Prop}
set_option maxHeartbeats 4000000 in
set_option maxRecDepth 100000 in
theorem w_X9_divided_77 {r : Int64} (hC : Cx RX9 cX9_divided 11 (some .long) p s m args meth c) (hR : 2 ≤ R.frames ∧ 48 ≤ R.locals) : ∀ (x6 : Int32) (x7 : Int64) (xs0 : Int64) (H : Heap) (locs : List Loc) (ls : Array Slot), Wd G cA S D ad A s H locs → lv_has ls 11 [(6, .int x6), (7, .long x7)] → f_X9_divided_77 x6 x7 xs0 = some r → W p l e R s m args below meth c H locs 0 0 (MQ below (Qn (some (.long r)) True (wpost G cA S D ad A) A) args s 0 0 A) (F0 m 77 ls [.long xs0]) := by
  obtain ⟨hx, hb, -⟩ := id hC
  intro x6 x7 xs0 H locs ls hw hl h
  unfold f_X9_divided_77 at h
  refine lv_lstore (lv' := [(9, .long xs0), (6, .int x6), (7, .long x7)]) hx hb dX9_divided_77 hl (by decide) rfl (fun ls hl => ?_)
  refine lv_lload hx hb dX9_divided_79 (lv_at hl 0 rfl) ?_
  refine lv_ldc2 (v := (-1)) hx hb hC.2.2.2.1 (hC.2.2.2.2.1 _ lk_1365) dX9_divided_81 ?_
  refine W.lcmp hx hb dX9_divided_84 ?_
  refine lv_if_ne (tgt := 101) hx hb dX9_divided_85 (by decide) (fun c20 => ?_) (fun c20 => ?_)
  · have h := i_no c20 h
    refine lv_iload hx hb dX9_divided_101 (lv_at hl 1 rfl) ?_
    refine lv_if_eq (tgt := 114) hx hb dX9_divided_103 (by decide) (fun c21 => ?_) (fun c21 => ?_)
    · have h := i_yes c21 h
      refine lv_lload hx hb dX9_divided_114 (lv_at hl 2 rfl) ?_
      refine lv_lload hx hb dX9_divided_116 (lv_at hl 0 rfl) ?_
      obtain ⟨hz22, h⟩ := ck_i h
      refine lv_ldiv hx hb dX9_divided_118 hz22 ?_
      cases h
      exact r_lret hC hw dX9_divided_119
    · have h := i_no c21 h
      refine lv_lload hx hb dX9_divided_106 (lv_at hl 2 rfl) ?_
      refine lv_lload hx hb dX9_divided_108 (lv_at hl 0 rfl) ?_
      obtain ⟨hz23, h⟩ := ck_i h
      refine lv_lrem hx hb dX9_divided_110 hz23 ?_
      refine lv_goto (tgt := 119) hx hb dX9_divided_111 (by decide) ?_
      cases h
      exact r_lret hC hw dX9_divided_119
  · have h := i_yes c20 h
    refine lv_iload hx hb dX9_divided_88 (lv_at hl 1 rfl) ?_
    refine lv_if_eq (tgt := 97) hx hb dX9_divided_90 (by decide) (fun c24 => ?_) (fun c24 => ?_)
    · have h := i_yes c24 h
      refine lv_lload hx hb dX9_divided_97 (lv_at hl 2 rfl) ?_
      refine lv_lneg hx hb dX9_divided_99 ?_
      cases h
      exact r_lret hC hw dX9_divided_100
    · have h := i_no c24 h
      refine lv_lconst (v := 0) hx hb dX9_divided_93 (by decide) ?_
      refine lv_goto (tgt := 100) hx hb dX9_divided_94 (by decide) ?_
      cases h
      exact r_lret hC hw dX9_divided_100
set_option maxHeartbeats 4000000 in
set_option maxRecDepth 100000 in
theorem w_X9_divided_60 {r : Int64} (hC : Cx RX9 cX9_divided 11 (some .long) p s m args meth c) (hR : 2 ≤ R.frames ∧ 48 ≤ R.locals) : ∀ (x2 : Int64) (x4 : Int32) (x6 : Int32) (xs0 : Int64) (H : Heap) (locs : List Loc) (ls : Array Slot), Wd G cA S D ad A s H locs → lv_has ls 11 [(2, .long x2), (4, .int x4), (6, .int x6)] → f_X9_divided_60 x2 x4 x6 xs0 = some r → W p l e R s m args below meth c H locs 0 0 (MQ below (Qn (some (.long r)) True (wpost G cA S D ad A) A) args s 0 0 A) (F0 m 60 ls [.long xs0]) := by
  obtain ⟨hx, hb, -⟩ := id hC
  intro x2 x4 x6 xs0 H locs ls hw hl h
  unfold f_X9_divided_60 at h
  refine lv_lstore (lv' := [(7, .long xs0), (2, .long x2), (4, .int x4), (6, .int x6)]) hx hb dX9_divided_60 hl (by decide) rfl (fun ls hl => ?_)
  refine lv_iload hx hb dX9_divided_62 (lv_at hl 2 rfl) ?_
  refine lv_if_eq (tgt := 71) hx hb dX9_divided_64 (by decide) (fun c25 => ?_) (fun c25 => ?_)
  · have h := i_yes c25 h
    refine lv_lload_n hx hb dX9_divided_71 rfl (lv_at hl 1 rfl) ?_
    refine lv_bipush (v := 32) hx hb dX9_divided_72 (by decide) ?_
    obtain ⟨r27, hq26, h⟩ := pq_i h
    refine r_cS (st' := [.long r27]) [.long x2, .int (32 : Int32)] [] hC hw (k_X9_signed _ hq26) mk_X9_signed lk_1362 ⟨Nat.le_trans (by decide) hR.1, Nat.le_trans (by decide) hR.2⟩ ⟨Nat.zero_le _, Nat.zero_le _⟩ rfl hl.1 rfl rfl (Nat.le_of_ble_eq_true rfl) dX9_divided_74 (fun hP H locs hw => ?_)
    exact w_X9_divided_77 hC hR x6 xs0 r27 _ _ _ hw (lv_sub hl [3, 0] rfl) h
  · have h := i_no c25 h
    refine lv_lload_n hx hb dX9_divided_67 rfl (lv_at hl 1 rfl) ?_
    refine lv_goto (tgt := 77) hx hb dX9_divided_68 (by decide) ?_
    exact w_X9_divided_77 hC hR x6 xs0 x2 _ _ _ hw (lv_sub hl [3, 0] rfl) h
set_option maxHeartbeats 4000000 in
set_option maxRecDepth 100000 in
theorem w_X9_divided_0 {r : Int64} (hC : Cx RX9 cX9_divided 11 (some .long) p s m args meth c) (hR : 2 ≤ R.frames ∧ 48 ≤ R.locals) : ∀ (x0 : Int64) (x2 : Int64) (x4 : Int32) (x5 : Int32) (x6 : Int32) (H : Heap) (locs : List Loc) (ls : Array Slot), Wd G cA S D ad A s H locs → lv_has ls 11 [(0, .long x0), (2, .long x2), (4, .int x4), (5, .int x5), (6, .int x6)] → f_X9_divided x0 x2 x4 x5 x6 = some r → W p l e R s m args below meth c H locs 0 0 (MQ below (Qn (some (.long r)) True (wpost G cA S D ad A) A) args s 0 0 A) (F0 m 0 ls []) := by
  obtain ⟨hx, hb, -⟩ := id hC
  intro x0 x2 x4 x5 x6 H locs ls hw hl h
  unfold f_X9_divided at h
  refine lv_lload_n hx hb dX9_divided_0 rfl (lv_at hl 1 rfl) ?_
  refine lv_lconst (v := 0) hx hb dX9_divided_1 (by decide) ?_
  refine W.lcmp hx hb dX9_divided_2 ?_
  refine lv_if_ne (tgt := 17) hx hb dX9_divided_3 (by decide) (fun c28 => ?_) (fun c28 => ?_)
  · have h := i_no c28 h
    refine lv_iload hx hb dX9_divided_17 (lv_at hl 3 rfl) ?_
    refine lv_if_ne (tgt := 45) hx hb dX9_divided_19 (by decide) (fun c29 => ?_) (fun c29 => ?_)
    · have h := i_no c29 h
      refine lv_iload hx hb dX9_divided_45 (lv_at hl 2 rfl) ?_
      refine lv_if_eq (tgt := 54) hx hb dX9_divided_47 (by decide) (fun c30 => ?_) (fun c30 => ?_)
      · have h := i_yes c30 h
        refine lv_lload_n hx hb dX9_divided_54 rfl (lv_at hl 0 rfl) ?_
        refine lv_bipush (v := 32) hx hb dX9_divided_55 (by decide) ?_
        obtain ⟨r32, hq31, h⟩ := pq_i h
        refine r_cS (st' := [.long r32]) [.long x0, .int (32 : Int32)] [] hC hw (k_X9_signed _ hq31) mk_X9_signed lk_1362 ⟨Nat.le_trans (by decide) hR.1, Nat.le_trans (by decide) hR.2⟩ ⟨Nat.zero_le _, Nat.zero_le _⟩ rfl hl.1 rfl rfl (Nat.le_of_ble_eq_true rfl) dX9_divided_57 (fun hP H locs hw => ?_)
        exact w_X9_divided_60 hC hR x2 x4 x6 r32 _ _ _ hw (lv_sub hl [1, 2, 4] rfl) h
      · have h := i_no c30 h
        refine lv_lload_n hx hb dX9_divided_50 rfl (lv_at hl 0 rfl) ?_
        refine lv_goto (tgt := 60) hx hb dX9_divided_51 (by decide) ?_
        exact w_X9_divided_60 hC hR x2 x4 x6 x0 _ _ _ hw (lv_sub hl [1, 2, 4] rfl) h
    · have h := i_yes c29 h
      refine lv_iload hx hb dX9_divided_22 (lv_at hl 4 rfl) ?_
      refine lv_if_eq (tgt := 39) hx hb dX9_divided_24 (by decide) (fun c33 => ?_) (fun c33 => ?_)
      · have h := i_yes c33 h
        refine lv_lload_n hx hb dX9_divided_39 rfl (lv_at hl 0 rfl) ?_
        refine lv_lload_n hx hb dX9_divided_40 rfl (lv_at hl 1 rfl) ?_
        obtain ⟨r35, hq34, h⟩ := pq_i h
        refine r_cS (st' := [.long r35]) [.long x0, .long x2] [] hC hw (k_X9_over _ hq34) mk_X9_over lk_1355 ⟨Nat.le_trans (by decide) hR.1, Nat.le_trans (by decide) hR.2⟩ ⟨Nat.zero_le _, Nat.zero_le _⟩ rfl hl.1 rfl rfl (Nat.le_of_ble_eq_true rfl) dX9_divided_41 (fun hP H locs hw => ?_)
        cases h
        exact r_lret hC hw dX9_divided_44
      · have h := i_no c33 h
        refine lv_lload_n hx hb dX9_divided_27 rfl (lv_at hl 0 rfl) ?_
        refine lv_lload_n hx hb dX9_divided_28 rfl (lv_at hl 0 rfl) ?_
        refine lv_lload_n hx hb dX9_divided_29 rfl (lv_at hl 1 rfl) ?_
        obtain ⟨r37, hq36, h⟩ := pq_i h
        refine r_cS (st' := [.long r37, .long x0]) [.long x0, .long x2] [.long x0] hC hw (k_X9_over _ hq36) mk_X9_over lk_1355 ⟨Nat.le_trans (by decide) hR.1, Nat.le_trans (by decide) hR.2⟩ ⟨Nat.zero_le _, Nat.zero_le _⟩ rfl hl.1 rfl rfl (Nat.le_of_ble_eq_true rfl) dX9_divided_30 (fun hP H locs hw => ?_)
        refine lv_lload_n hx hb dX9_divided_33 rfl (lv_at hl 1 rfl) ?_
        refine lv_lmul hx hb dX9_divided_34 ?_
        refine lv_lsub hx hb dX9_divided_35 ?_
        refine lv_goto (tgt := 44) hx hb dX9_divided_36 (by decide) ?_
        cases h
        exact r_lret hC hw dX9_divided_44
  · have h := i_yes c28 h
    refine lv_iload hx hb dX9_divided_6 (lv_at hl 4 rfl) ?_
    refine lv_if_eq (tgt := 15) hx hb dX9_divided_8 (by decide) (fun c38 => ?_) (fun c38 => ?_)
    · have h := i_yes c38 h
      refine lv_lconst (v := 0) hx hb dX9_divided_15 (by decide) ?_
      cases h
      exact r_lret hC hw dX9_divided_16
    · have h := i_no c38 h
      refine lv_lload_n hx hb dX9_divided_11 rfl (lv_at hl 0 rfl) ?_
      refine lv_goto (tgt := 16) hx hb dX9_divided_12 (by decide) ?_
      cases h
      exact r_lret hC hw dX9_divided_16
set_option maxHeartbeats 4000000 in
set_option maxRecDepth 100000 in
theorem k_X9_divided {l : Launch} {G : va_G} {cA : Nat → ClassId} {S : sh} {D : dt} {ad : Nat → Nat} (sz : Nat) {x0 : Int64} {x2 : Int64} {x4 : Int32} {x5 : Int32} {x6 : Int32} {r : Int64}  (h : f_X9_divided x0 x2 x4 x5 x6 = some r) : Co l yX9_divided (Cond.code yX9_divided cX9_divided 11 (some .long) :: tb0) 2 48 [.long x0, .long x2, .int x4, .int x5, .int x6] G cA S D ad sz (some (.long r)) True D := by
  refine Met.ofW (cc := cX9_divided) (maxL := 11) (ret := (some .long)) (by decide) rfl ?_
  intro p e s m args below meth c s₁ B hml hv
  obtain ⟨rfl, hsz, hP, hK, hD0, hT, hX⟩ := hv
  subst hsz
  have hts := atoms_spec (ws := Cond.code yX9_divided cX9_divided 11 (some .long) :: tb0) B.pre
  have hC : Cx RX9 cX9_divided 11 (some .long) p s m _ meth c := ⟨B.exec, B.bytes, hml, findClass_of_methodNamed B.named, fun w q => hts w (List.mem_cons_of_mem _ q), B.returns, B.notSynchronized⟩
  have hw := Wd.entry hP hK hD0 hT hX
  have hl := lv_entry ([.long x0, .long x2, .int x4, .int x5, .int x6]) (n := 11) (Nat.le_of_ble_eq_true rfl)
  rw [lg_entry_eq]
  exact w_X9_divided_0 hC ⟨Nat.le_refl _, Nat.le_refl _⟩ x0 x2 x4 x5 x6 _ _ _ hw hl h
set_option maxHeartbeats 4000000 in
set_option maxRecDepth 100000 in
theorem w_X9_made_122 {r : Int64} (hC : Cx RX9 cX9_made 9 (some .long) p s m args meth c) (hR : 3 ≤ R.frames ∧ 78 ≤ R.locals) : ∀ (xs0 : Int64) (xs1 : Int64) (xs2 : Int32) (xs3 : Int32) (H : Heap) (locs : List Loc) (ls : Array Slot), Wd G cA S D ad A s H locs → lv_has ls 9 [] → f_X9_made_122 S D xs0 xs1 xs2 xs3 = some r → W p l e R s m args below meth c H locs 0 0 (MQ below (Qn (some (.long r)) True (wpost G cA S D ad A) A) args s 0 0 A) (F0 m 122 ls [.int xs3, .int xs2, .long xs1, .long xs0]) := by
  obtain ⟨hx, hb, -⟩ := id hC
  intro xs0 xs1 xs2 xs3 H locs ls  hw hl h
  unfold f_X9_made_122 at h
  refine lv_iconst (v := 0) hx hb dX9_made_122 (by decide) ?_
  obtain ⟨r49, hq48, h⟩ := pq_i h
  refine r_cS (st' := [.long r49]) [.long xs0, .long xs1, .int xs2, .int xs3, .int (0 : Int32)] [] hC hw (k_X9_divided _ hq48) mk_X9_divided lk_1352 ⟨Nat.le_trans (by decide) hR.1, Nat.le_trans (by decide) hR.2⟩ ⟨Nat.zero_le _, Nat.zero_le _⟩ rfl hl.1 rfl rfl (Nat.le_of_ble_eq_true rfl) dX9_made_123 (fun hP H locs hw => ?_)
  cases h
  exact r_lret hC hw dX9_made_126
set_option maxHeartbeats 4000000 in
set_option maxRecDepth 100000 in
theorem w_X9_made_147 {r : Int64} (hC : Cx RX9 cX9_made 9 (some .long) p s m args meth c) (hR : 3 ≤ R.frames ∧ 78 ≤ R.locals) : ∀ (xs0 : Int64) (xs1 : Int64) (xs2 : Int32) (xs3 : Int32) (H : Heap) (locs : List Loc) (ls : Array Slot), Wd G cA S D ad A s H locs → lv_has ls 9 [] → f_X9_made_147 S D xs0 xs1 xs2 xs3 = some r → W p l e R s m args below meth c H locs 0 0 (MQ below (Qn (some (.long r)) True (wpost G cA S D ad A) A) args s 0 0 A) (F0 m 147 ls [.int xs3, .int xs2, .long xs1, .long xs0]) := by
  obtain ⟨hx, hb, -⟩ := id hC
  intro xs0 xs1 xs2 xs3 H locs ls  hw hl h
  unfold f_X9_made_147 at h
  refine lv_iconst (v := 1) hx hb dX9_made_147 (by decide) ?_
  obtain ⟨r51, hq50, h⟩ := pq_i h
  refine r_cS (st' := [.long r51]) [.long xs0, .long xs1, .int xs2, .int xs3, .int (1 : Int32)] [] hC hw (k_X9_divided _ hq50) mk_X9_divided lk_1352 ⟨Nat.le_trans (by decide) hR.1, Nat.le_trans (by decide) hR.2⟩ ⟨Nat.zero_le _, Nat.zero_le _⟩ rfl hl.1 rfl rfl (Nat.le_of_ble_eq_true rfl) dX9_made_148 (fun hP H locs hw => ?_)
  cases h
  exact r_lret hC hw dX9_made_151
set_option maxHeartbeats 4000000 in
set_option maxRecDepth 100000 in
theorem w_X9_made_206 {r : Int64} (hC : Cx RX9 cX9_made 9 (some .long) p s m args meth c) (hR : 3 ≤ R.frames ∧ 78 ≤ R.locals) : ∀ (o0 a0 : Nat) (x1 : Int32) (x6 : Int64) (H : Heap) (locs : List Loc) (ls : Array Slot), Is S ad o0 a0 8 → Wd G cA S D ad A s H locs → lv_has ls 9 [(0, .ref a0), (1, .int x1), (6, .long x6)] → f_X9_made_206 S D o0 x1 x6 = some r → W p l e R s m args below meth c H locs 0 0 (MQ below (Qn (some (.long r)) True (wpost G cA S D ad A) A) args s 0 0 A) (F0 m 206 ls []) := by
  obtain ⟨hx, hb, -⟩ := id hC
  intro o0 a0 x1 x6 H locs ls hi0 hw hl h
  unfold f_X9_made_206 at h
  refine lv_aload_n hx hb dX9_made_206 rfl (lv_at hl 0 rfl) ?_
  obtain ⟨o52, ho55, h⟩ := rq_i h
  refine r_getR hC hw kc_8 hi0 4 rfl lk_1076 dX9_made_207 rfl ho55 (fun a53 hi54 => ?_)
  refine lv_iload_n hx hb dX9_made_210 rfl (lv_at hl 1 rfl) ?_
  obtain ⟨hn56, h⟩ := ix_i h
  refine r_iald hC hw hi54 hn56 dX9_made_211 ?_
  refine lv_if_ne (tgt := 220) hx hb dX9_made_212 (by decide) (fun c57 => ?_) (fun c57 => ?_)
  · have h := i_no c57 h
    refine lv_lload hx hb dX9_made_220 (lv_at hl 2 rfl) ?_
    refine lv_aload_n hx hb dX9_made_222 rfl (lv_at hl 0 rfl) ?_
    obtain ⟨o58, ho61, h⟩ := rq_i h
    refine r_getR hC hw kc_8 hi0 4 rfl lk_1076 dX9_made_223 rfl ho61 (fun a59 hi60 => ?_)
    refine lv_iload_n hx hb dX9_made_226 rfl (lv_at hl 1 rfl) ?_
    obtain ⟨hn62, h⟩ := ix_i h
    refine r_iald hC hw hi60 hn62 dX9_made_227 ?_
    obtain ⟨r64, hq63, h⟩ := pq_i h
    refine r_cS (st' := [.long r64]) [.long x6, .int (gI D o58 x1.toNatClampNeg)] [] hC hw (k_X9_signed _ hq63) mk_X9_signed lk_1362 ⟨Nat.le_trans (by decide) hR.1, Nat.le_trans (by decide) hR.2⟩ ⟨Nat.zero_le _, Nat.zero_le _⟩ rfl hl.1 rfl rfl (Nat.le_of_ble_eq_true rfl) dX9_made_228 (fun hP H locs hw => ?_)
    cases h
    exact r_lret hC hw dX9_made_231
  · have h := i_yes c57 h
    refine lv_lload hx hb dX9_made_215 (lv_at hl 2 rfl) ?_
    refine lv_goto (tgt := 231) hx hb dX9_made_217 (by decide) ?_
    cases h
    exact r_lret hC hw dX9_made_231
set_option maxHeartbeats 4000000 in
set_option maxRecDepth 100000 in
theorem w_X9_made_198 {r : Int64} (hC : Cx RX9 cX9_made 9 (some .long) p s m args meth c) (hR : 3 ≤ R.frames ∧ 78 ≤ R.locals) : ∀ (x8 : Int32) (xs0 : Int64) (H : Heap) (locs : List Loc) (ls : Array Slot), Wd G cA S D ad A s H locs → lv_has ls 9 [(8, .int x8)] → f_X9_made_198 S D x8 xs0 = some r → W p l e R s m args below meth c H locs 0 0 (MQ below (Qn (some (.long r)) True (wpost G cA S D ad A) A) args s 0 0 A) (F0 m 198 ls [.long xs0]) := by
  obtain ⟨hx, hb, -⟩ := id hC
  intro x8 xs0 H locs ls  hw hl h
  unfold f_X9_made_198 at h
  refine lv_iload hx hb dX9_made_198 (lv_at hl 0 rfl) ?_
  refine lv_lshr (v := j_lshr xs0 x8) hx hb dX9_made_200 rfl ?_
  cases h
  exact r_lret hC hw dX9_made_201
set_option maxHeartbeats 4000000 in
set_option maxRecDepth 100000 in
theorem w_X9_made_14 {r : Int64} (hC : Cx RX9 cX9_made 9 (some .long) p s m args meth c) (hR : 3 ≤ R.frames ∧ 78 ≤ R.locals) : ∀ (o0 a0 : Nat) (x1 : Int32) (x2 : Int32) (x3 : Int32) (x4 : Int64) (x6 : Int64) (xs0 : Int32) (xs1 : Int32) (H : Heap) (locs : List Loc) (ls : Array Slot), Is S ad o0 a0 8 → Wd G cA S D ad A s H locs → lv_has ls 9 [(0, .ref a0), (1, .int x1), (2, .int x2), (3, .int x3), (4, .long x4), (6, .long x6)] → f_X9_made_14 S D o0 x1 x2 x3 x4 x6 xs0 xs1 = some r → W p l e R s m args below meth c H locs 0 0 (MQ below (Qn (some (.long r)) True (wpost G cA S D ad A) A) args s 0 0 A) (F0 m 14 ls [.int xs1, .int xs0]) := by
  obtain ⟨hx, hb, -⟩ := id hC
  intro o0 a0 x1 x2 x3 x4 x6 xs0 xs1 H locs ls hi0 hw hl h
  unfold f_X9_made_14 at h
  refine lv_iand hx hb dX9_made_14 ?_
  refine lv_topi (fun y65 ey65 => ?_)
  have h := nm_i h y65 ey65
  refine lv_istore (lv' := [(8, .int y65), (0, .ref a0), (1, .int x1), (2, .int x2), (3, .int x3), (4, .long x4), (6, .long x6)]) hx hb dX9_made_15 hl (by decide) rfl (fun ls hl => ?_)
  refine lv_iload_n hx hb dX9_made_17 rfl (lv_at hl 3 rfl) ?_
  by_cases c66 : x2 = 0
  · have h := i_yes c66 h
    refine lv_tableIn (off := 66) (tgt := 84) hx hb dX9_made_18 (by rw [c66]; decide) (by rw [c66]; decide) (by rw [c66] <;> rfl) (by decide) ?_
    refine lv_lload hx hb dX9_made_84 (lv_at hl 5 rfl) ?_
    refine lv_lload hx hb dX9_made_86 (lv_at hl 6 rfl) ?_
    refine lv_ladd hx hb dX9_made_88 ?_
    cases h
    exact r_lret hC hw dX9_made_89
  have h := i_no c66 h
  by_cases c67 : x2 = 1
  · have h := i_yes c67 h
    refine lv_tableIn (off := 72) (tgt := 90) hx hb dX9_made_18 (by rw [c67]; decide) (by rw [c67]; decide) (by rw [c67] <;> rfl) (by decide) ?_
    refine lv_lload hx hb dX9_made_90 (lv_at hl 5 rfl) ?_
    refine lv_lload hx hb dX9_made_92 (lv_at hl 6 rfl) ?_
    refine lv_lsub hx hb dX9_made_94 ?_
    cases h
    exact r_lret hC hw dX9_made_95
  have h := i_no c67 h
  by_cases c68 : x2 = 2
  · have h := i_yes c68 h
    refine lv_tableIn (off := 78) (tgt := 96) hx hb dX9_made_18 (by rw [c68]; decide) (by rw [c68]; decide) (by rw [c68] <;> rfl) (by decide) ?_
    refine lv_lload hx hb dX9_made_96 (lv_at hl 5 rfl) ?_
    refine lv_lload hx hb dX9_made_98 (lv_at hl 6 rfl) ?_
    refine lv_lmul hx hb dX9_made_100 ?_
    cases h
    exact r_lret hC hw dX9_made_101
  have h := i_no c68 h
  by_cases c69 : x2 = 3
  · have h := i_yes c69 h
    refine lv_tableIn (off := 84) (tgt := 102) hx hb dX9_made_18 (by rw [c69]; decide) (by rw [c69]; decide) (by rw [c69] <;> rfl) (by decide) ?_
    refine lv_lload hx hb dX9_made_102 (lv_at hl 5 rfl) ?_
    refine lv_lload hx hb dX9_made_104 (lv_at hl 6 rfl) ?_
    refine lv_iload_n hx hb dX9_made_106 rfl (lv_at hl 4 rfl) ?_
    refine lv_aload_n hx hb dX9_made_107 rfl (lv_at hl 1 rfl) ?_
    obtain ⟨o70, ho73, h⟩ := rq_i h
    refine r_getR hC hw kc_8 hi0 4 rfl lk_1076 dX9_made_108 rfl ho73 (fun a71 hi72 => ?_)
    refine lv_iload_n hx hb dX9_made_111 rfl (lv_at hl 2 rfl) ?_
    obtain ⟨hn74, h⟩ := ix_i h
    refine r_iald hC hw hi72 hn74 dX9_made_112 ?_
    refine lv_iconst (v := 1) hx hb dX9_made_113 (by decide) ?_
    refine lv_icmp_ne (tgt := 121) hx hb dX9_made_114 (by decide) (fun c75 => ?_) (fun c75 => ?_)
    · have h := i_no c75 h
      refine lv_iconst (v := 0) hx hb dX9_made_121 (by decide) ?_
      exact w_X9_made_122 hC hR x4 x6 x3 (0 : Int32) _ _ _ hw (lv_sub hl [] rfl) h
    · have h := i_yes c75 h
      refine lv_iconst (v := 1) hx hb dX9_made_117 (by decide) ?_
      refine lv_goto (tgt := 122) hx hb dX9_made_118 (by decide) ?_
      exact w_X9_made_122 hC hR x4 x6 x3 (1 : Int32) _ _ _ hw (lv_sub hl [] rfl) h
  have h := i_no c69 h
  by_cases c76 : x2 = 4
  · have h := i_yes c76 h
    refine lv_tableIn (off := 134) (tgt := 152) hx hb dX9_made_18 (by rw [c76]; decide) (by rw [c76]; decide) (by rw [c76] <;> rfl) (by decide) ?_
    refine lv_lload hx hb dX9_made_152 (lv_at hl 5 rfl) ?_
    refine lv_lload hx hb dX9_made_154 (lv_at hl 6 rfl) ?_
    refine lv_lor hx hb dX9_made_156 ?_
    cases h
    exact r_lret hC hw dX9_made_157
  have h := i_no c76 h
  by_cases c77 : x2 = 5
  · have h := i_yes c77 h
    refine lv_tableIn (off := 140) (tgt := 158) hx hb dX9_made_18 (by rw [c77]; decide) (by rw [c77]; decide) (by rw [c77] <;> rfl) (by decide) ?_
    refine lv_lload hx hb dX9_made_158 (lv_at hl 5 rfl) ?_
    refine lv_lload hx hb dX9_made_160 (lv_at hl 6 rfl) ?_
    refine lv_land hx hb dX9_made_162 ?_
    cases h
    exact r_lret hC hw dX9_made_163
  have h := i_no c77 h
  by_cases c78 : x2 = 6
  · have h := i_yes c78 h
    refine lv_tableIn (off := 152) (tgt := 170) hx hb dX9_made_18 (by rw [c78]; decide) (by rw [c78]; decide) (by rw [c78] <;> rfl) (by decide) ?_
    refine lv_lload hx hb dX9_made_170 (lv_at hl 5 rfl) ?_
    refine lv_iload hx hb dX9_made_172 (lv_at hl 0 rfl) ?_
    refine lv_lshl (v := j_lshl x4 y65) hx hb dX9_made_174 rfl ?_
    cases h
    exact r_lret hC hw dX9_made_175
  have h := i_no c78 h
  by_cases c79 : x2 = 7
  · have h := i_yes c79 h
    refine lv_tableIn (off := 158) (tgt := 176) hx hb dX9_made_18 (by rw [c79]; decide) (by rw [c79]; decide) (by rw [c79] <;> rfl) (by decide) ?_
    refine lv_lload hx hb dX9_made_176 (lv_at hl 5 rfl) ?_
    refine lv_iload hx hb dX9_made_178 (lv_at hl 0 rfl) ?_
    refine lv_lushr (v := j_lushr x4 y65) hx hb dX9_made_180 rfl ?_
    cases h
    exact r_lret hC hw dX9_made_181
  have h := i_no c79 h
  by_cases c80 : x2 = 8
  · have h := i_yes c80 h
    refine lv_tableIn (off := 184) (tgt := 202) hx hb dX9_made_18 (by rw [c80]; decide) (by rw [c80]; decide) (by rw [c80] <;> rfl) (by decide) ?_
    refine lv_lload hx hb dX9_made_202 (lv_at hl 5 rfl) ?_
    refine lv_lneg hx hb dX9_made_204 ?_
    cases h
    exact r_lret hC hw dX9_made_205
  have h := i_no c80 h
  by_cases c81 : x2 = 9
  · have h := i_yes c81 h
    refine lv_tableIn (off := 109) (tgt := 127) hx hb dX9_made_18 (by rw [c81]; decide) (by rw [c81]; decide) (by rw [c81] <;> rfl) (by decide) ?_
    refine lv_lload hx hb dX9_made_127 (lv_at hl 5 rfl) ?_
    refine lv_lload hx hb dX9_made_129 (lv_at hl 6 rfl) ?_
    refine lv_iload_n hx hb dX9_made_131 rfl (lv_at hl 4 rfl) ?_
    refine lv_aload_n hx hb dX9_made_132 rfl (lv_at hl 1 rfl) ?_
    obtain ⟨o82, ho85, h⟩ := rq_i h
    refine r_getR hC hw kc_8 hi0 4 rfl lk_1076 dX9_made_133 rfl ho85 (fun a83 hi84 => ?_)
    refine lv_iload_n hx hb dX9_made_136 rfl (lv_at hl 2 rfl) ?_
    obtain ⟨hn86, h⟩ := ix_i h
    refine r_iald hC hw hi84 hn86 dX9_made_137 ?_
    refine lv_iconst (v := 1) hx hb dX9_made_138 (by decide) ?_
    refine lv_icmp_ne (tgt := 146) hx hb dX9_made_139 (by decide) (fun c87 => ?_) (fun c87 => ?_)
    · have h := i_no c87 h
      refine lv_iconst (v := 0) hx hb dX9_made_146 (by decide) ?_
      exact w_X9_made_147 hC hR x4 x6 x3 (0 : Int32) _ _ _ hw (lv_sub hl [] rfl) h
    · have h := i_yes c87 h
      refine lv_iconst (v := 1) hx hb dX9_made_142 (by decide) ?_
      refine lv_goto (tgt := 147) hx hb dX9_made_143 (by decide) ?_
      exact w_X9_made_147 hC hR x4 x6 x3 (1 : Int32) _ _ _ hw (lv_sub hl [] rfl) h
  have h := i_no c81 h
  by_cases c88 : x2 = 10
  · have h := i_yes c88 h
    refine lv_tableIn (off := 146) (tgt := 164) hx hb dX9_made_18 (by rw [c88]; decide) (by rw [c88]; decide) (by rw [c88] <;> rfl) (by decide) ?_
    refine lv_lload hx hb dX9_made_164 (lv_at hl 5 rfl) ?_
    refine lv_lload hx hb dX9_made_166 (lv_at hl 6 rfl) ?_
    refine lv_lxor hx hb dX9_made_168 ?_
    cases h
    exact r_lret hC hw dX9_made_169
  have h := i_no c88 h
  by_cases c89 : x2 = 11
  · have h := i_yes c89 h
    refine lv_tableIn (off := 188) (tgt := 206) hx hb dX9_made_18 (by rw [c89]; decide) (by rw [c89]; decide) (by rw [c89] <;> rfl) (by decide) ?_
    exact w_X9_made_206 hC hR o0 a0 x1 x6 _ _ _ hi0 hw (lv_sub hl [1, 2, 6] rfl) h
  have h := i_no c89 h
  by_cases c90 : x2 = 12
  · have h := i_yes c90 h
    refine lv_tableIn (off := 164) (tgt := 182) hx hb dX9_made_18 (by rw [c90]; decide) (by rw [c90]; decide) (by rw [c90] <;> rfl) (by decide) ?_
    refine lv_iload_n hx hb dX9_made_182 rfl (lv_at hl 4 rfl) ?_
    refine lv_if_eq (tgt := 191) hx hb dX9_made_183 (by decide) (fun c91 => ?_) (fun c91 => ?_)
    · have h := i_yes c91 h
      refine lv_lload hx hb dX9_made_191 (lv_at hl 5 rfl) ?_
      refine lv_bipush (v := 32) hx hb dX9_made_193 (by decide) ?_
      obtain ⟨r93, hq92, h⟩ := pq_i h
      refine r_cS (st' := [.long r93]) [.long x4, .int (32 : Int32)] [] hC hw (k_X9_signed _ hq92) mk_X9_signed lk_1362 ⟨Nat.le_trans (by decide) hR.1, Nat.le_trans (by decide) hR.2⟩ ⟨Nat.zero_le _, Nat.zero_le _⟩ rfl hl.1 rfl rfl (Nat.le_of_ble_eq_true rfl) dX9_made_195 (fun hP H locs hw => ?_)
      exact w_X9_made_198 hC hR y65 r93 _ _ _ hw (lv_sub hl [0] rfl) h
    · have h := i_no c91 h
      refine lv_lload hx hb dX9_made_186 (lv_at hl 5 rfl) ?_
      refine lv_goto (tgt := 198) hx hb dX9_made_188 (by decide) ?_
      exact w_X9_made_198 hC hR y65 x4 _ _ _ hw (lv_sub hl [0] rfl) h
  have h := i_no c90 h
  refine lv_tableOut (tgt := 206) hx hb dX9_made_18 (by have nc66 := lv_neT c66 (a := 0) rfl; have nc67 := lv_neT c67 (a := 1) rfl; have nc68 := lv_neT c68 (a := 2) rfl; have nc69 := lv_neT c69 (a := 3) rfl; have nc76 := lv_neT c76 (a := 4) rfl; have nc77 := lv_neT c77 (a := 5) rfl; have nc78 := lv_neT c78 (a := 6) rfl; have nc79 := lv_neT c79 (a := 7) rfl; have nc80 := lv_neT c80 (a := 8) rfl; have nc81 := lv_neT c81 (a := 9) rfl; have nc88 := lv_neT c88 (a := 10) rfl; have nc89 := lv_neT c89 (a := 11) rfl; have nc90 := lv_neT c90 (a := 12) rfl; omega) (by decide) ?_
  exact w_X9_made_206 hC hR o0 a0 x1 x6 _ _ _ hi0 hw (lv_sub hl [1, 2, 6] rfl) h
set_option maxHeartbeats 4000000 in
set_option maxRecDepth 100000 in
theorem w_X9_made_0 {r : Int64} (hC : Cx RX9 cX9_made 9 (some .long) p s m args meth c) (hR : 3 ≤ R.frames ∧ 78 ≤ R.locals) : ∀ (o0 a0 : Nat) (x1 : Int32) (x2 : Int32) (x3 : Int32) (x4 : Int64) (x6 : Int64) (H : Heap) (locs : List Loc) (ls : Array Slot), Is S ad o0 a0 8 → Wd G cA S D ad A s H locs → lv_has ls 9 [(0, .ref a0), (1, .int x1), (2, .int x2), (3, .int x3), (4, .long x4), (6, .long x6)] → f_X9_made S D o0 x1 x2 x3 x4 x6 = some r → W p l e R s m args below meth c H locs 0 0 (MQ below (Qn (some (.long r)) True (wpost G cA S D ad A) A) args s 0 0 A) (F0 m 0 ls []) := by
  obtain ⟨hx, hb, -⟩ := id hC
  intro o0 a0 x1 x2 x3 x4 x6 H locs ls hi0 hw hl h
  unfold f_X9_made at h
  refine lv_lload hx hb dX9_made_0 (lv_at hl 5 rfl) ?_
  refine lv_l2i (v := x6.toInt32) hx hb dX9_made_2 rfl ?_
  refine lv_iload_n hx hb dX9_made_3 rfl (lv_at hl 3 rfl) ?_
  refine lv_if_eq (tgt := 12) hx hb dX9_made_4 (by decide) (fun c94 => ?_) (fun c94 => ?_)
  · have h := i_yes c94 h
    refine lv_bipush (v := 31) hx hb dX9_made_12 (by decide) ?_
    exact w_X9_made_14 hC hR o0 a0 x1 x2 x3 x4 x6 x6.toInt32 (31 : Int32) _ _ _ hi0 hw (lv_sub hl [0, 1, 2, 3, 4, 5] rfl) h
  · have h := i_no c94 h
    refine lv_bipush (v := 63) hx hb dX9_made_7 (by decide) ?_
    refine lv_goto (tgt := 14) hx hb dX9_made_9 (by decide) ?_
    exact w_X9_made_14 hC hR o0 a0 x1 x2 x3 x4 x6 x6.toInt32 (63 : Int32) _ _ _ hi0 hw (lv_sub hl [0, 1, 2, 3, 4, 5] rfl) h
set_option maxHeartbeats 4000000 in
set_option maxRecDepth 100000 in
theorem k_X9_made {l : Launch} {G : va_G} {cA : Nat → ClassId} {S : sh} {D : dt} {ad : Nat → Nat} (sz : Nat) {o0 a0 : Nat} {x1 : Int32} {x2 : Int32} {x3 : Int32} {x4 : Int64} {x6 : Int64} {r : Int64} (hi0 : Is S ad o0 a0 8) (h : f_X9_made S D o0 x1 x2 x3 x4 x6 = some r) : Co l yX9_made (Cond.code yX9_made cX9_made 9 (some .long) :: tb0) 3 78 [.ref a0, .int x1, .int x2, .int x3, .long x4, .long x6] G cA S D ad sz (some (.long r)) True D := by
  refine Met.ofW (cc := cX9_made) (maxL := 9) (ret := (some .long)) (by decide) rfl ?_
  intro p e s m args below meth c s₁ B hml hv
  obtain ⟨rfl, hsz, hP, hK, hD0, hT, hX⟩ := hv
  subst hsz
  have hts := atoms_spec (ws := Cond.code yX9_made cX9_made 9 (some .long) :: tb0) B.pre
  have hC : Cx RX9 cX9_made 9 (some .long) p s m _ meth c := ⟨B.exec, B.bytes, hml, findClass_of_methodNamed B.named, fun w q => hts w (List.mem_cons_of_mem _ q), B.returns, B.notSynchronized⟩
  have hw := Wd.entry hP hK hD0 hT hX
  have hl := lv_entry ([.ref a0, .int x1, .int x2, .int x3, .long x4, .long x6]) (n := 9) (Nat.le_of_ble_eq_true rfl)
  rw [lg_entry_eq]
  exact w_X9_made_0 hC ⟨Nat.le_refl _, Nat.le_refl _⟩ o0 a0 x1 x2 x3 x4 x6 _ _ _ hi0 hw hl h
set_option maxHeartbeats 4000000 in
set_option maxRecDepth 100000 in
theorem w_X9_reckon_89 {r : Int64} (hC : Cx RX9 cX9_reckon 14 (some .long) p s m args meth c) (hR : 4 ≤ R.frames ∧ 106 ≤ R.locals) : ∀ (o0 a0 : Nat) (x1 : Int32) (x8 : Int64) (H : Heap) (locs : List Loc) (ls : Array Slot), Is S ad o0 a0 8 → Wd G cA S D ad A s H locs → lv_has ls 14 [(0, .ref a0), (1, .int x1), (8, .long x8)] → f_X9_reckon_89 S D o0 x1 x8 = some r → W p l e R s m args below meth c H locs 0 0 (MQ below (Qn (some (.long r)) True (wpost G cA S D ad A) A) args s 0 0 A) (F0 m 89 ls []) := by
  obtain ⟨hx, hb, -⟩ := id hC
  intro o0 a0 x1 x8 H locs ls hi0 hw hl h
  unfold f_X9_reckon_89 at h
  refine lv_lload hx hb dX9_reckon_89 (lv_at hl 2 rfl) ?_
  refine lv_aload_n hx hb dX9_reckon_91 rfl (lv_at hl 0 rfl) ?_
  obtain ⟨o44, ho47, h⟩ := rq_i h
  refine r_getR hC hw kc_8 hi0 5 rfl lk_1077 dX9_reckon_92 rfl ho47 (fun a45 hi46 => ?_)
  refine lv_iload_n hx hb dX9_reckon_95 rfl (lv_at hl 1 rfl) ?_
  obtain ⟨hn48, h⟩ := ix_i h
  refine r_iald hC hw hi46 hn48 dX9_reckon_96 ?_
  obtain ⟨r50, hq49, h⟩ := pq_i h
  refine r_cS (st' := [.long r50]) [.long x8, .int (gI D o44 x1.toNatClampNeg)] [] hC hw (k_X9_turned _ hq49) mk_X9_turned lk_1344 ⟨Nat.le_trans (by decide) hR.1, Nat.le_trans (by decide) hR.2⟩ ⟨Nat.zero_le _, Nat.zero_le _⟩ rfl hl.1 rfl rfl (Nat.le_of_ble_eq_true rfl) dX9_reckon_97 (fun hP H locs hw => ?_)
  cases h
  exact r_lret hC hw dX9_reckon_100
set_option maxHeartbeats 4000000 in
set_option maxRecDepth 100000 in
theorem w_X9_reckon_65 {r : Int64} (hC : Cx RX9 cX9_reckon 14 (some .long) p s m args meth c) (hR : 4 ≤ R.frames ∧ 106 ≤ R.locals) : ∀ (o0 a0 : Nat) (x1 : Int32) (x6 : Int32) (xs0 : Int64) (H : Heap) (locs : List Loc) (ls : Array Slot), Is S ad o0 a0 8 → Wd G cA S D ad A s H locs → lv_has ls 14 [(0, .ref a0), (1, .int x1), (6, .int x6)] → f_X9_reckon_65 S D o0 x1 x6 xs0 = some r → W p l e R s m args below meth c H locs 0 0 (MQ below (Qn (some (.long r)) True (wpost G cA S D ad A) A) args s 0 0 A) (F0 m 65 ls [.long xs0]) := by
  obtain ⟨hx, hb, -⟩ := id hC
  intro o0 a0 x1 x6 xs0 H locs ls hi0 hw hl h
  unfold f_X9_reckon_65 at h
  refine lv_lstore (lv' := [(8, .long xs0), (0, .ref a0), (1, .int x1), (6, .int x6)]) hx hb dX9_reckon_65 hl (by decide) rfl (fun ls hl => ?_)
  refine lv_iload hx hb dX9_reckon_67 (lv_at hl 3 rfl) ?_
  refine lv_if_ne (tgt := 89) hx hb dX9_reckon_69 (by decide) (fun c51 => ?_) (fun c51 => ?_)
  · have h := i_no c51 h
    exact w_X9_reckon_89 hC hR o0 a0 x1 xs0 _ _ _ hi0 hw (lv_sub hl [1, 2, 0] rfl) h
  · have h := i_yes c51 h
    refine lv_aload_n hx hb dX9_reckon_72 rfl (lv_at hl 1 rfl) ?_
    obtain ⟨o52, ho55, h⟩ := rq_i h
    refine r_getR hC hw kc_8 hi0 1 rfl lk_1073 dX9_reckon_73 rfl ho55 (fun a53 hi54 => ?_)
    refine lv_iload_n hx hb dX9_reckon_76 rfl (lv_at hl 2 rfl) ?_
    obtain ⟨hn56, h⟩ := ix_i h
    refine r_iald hC hw hi54 hn56 dX9_reckon_77 ?_
    refine lv_bipush (v := 8) hx hb dX9_reckon_78 (by decide) ?_
    refine lv_iand hx hb dX9_reckon_80 ?_
    refine lv_if_ne (tgt := 89) hx hb dX9_reckon_81 (by decide) (fun c57 => ?_) (fun c57 => ?_)
    · have h := i_no c57 h
      exact w_X9_reckon_89 hC hR o0 a0 x1 xs0 _ _ _ hi0 hw (lv_sub hl [1, 2, 0] rfl) h
    · have h := i_yes c57 h
      refine lv_lload hx hb dX9_reckon_84 (lv_at hl 0 rfl) ?_
      refine lv_goto (tgt := 100) hx hb dX9_reckon_86 (by decide) ?_
      cases h
      exact r_lret hC hw dX9_reckon_100
set_option maxHeartbeats 4000000 in
set_option maxRecDepth 100000 in
theorem w_X9_reckon_133 {r : Int64} (hC : Cx RX9 cX9_reckon 14 (some .long) p s m args meth c) (hR : 4 ≤ R.frames ∧ 106 ≤ R.locals) : ∀ (o0 a0 : Nat) (x1 : Int32) (x6 : Int32) (x7 : Int32) (x8 : Int64) (xs0 : Int64) (H : Heap) (locs : List Loc) (ls : Array Slot), Is S ad o0 a0 8 → Wd G cA S D ad A s H locs → lv_has ls 14 [(0, .ref a0), (1, .int x1), (6, .int x6), (7, .int x7), (8, .long x8)] → f_X9_reckon_133 S D o0 x1 x6 x7 x8 xs0 = some r → W p l e R s m args below meth c H locs 0 0 (MQ below (Qn (some (.long r)) True (wpost G cA S D ad A) A) args s 0 0 A) (F0 m 133 ls [.long xs0]) := by
  obtain ⟨hx, hb, -⟩ := id hC
  intro o0 a0 x1 x6 x7 x8 xs0 H locs ls hi0 hw hl h
  unfold f_X9_reckon_133 at h
  refine lv_lstore (lv' := [(10, .long xs0), (0, .ref a0), (1, .int x1), (6, .int x6), (7, .int x7), (8, .long x8)]) hx hb dX9_reckon_133 hl (by decide) rfl (fun ls hl => ?_)
  refine lv_aload_n hx hb dX9_reckon_135 rfl (lv_at hl 1 rfl) ?_
  refine lv_iload_n hx hb dX9_reckon_136 rfl (lv_at hl 2 rfl) ?_
  refine lv_iload hx hb dX9_reckon_137 (lv_at hl 4 rfl) ?_
  refine lv_iload hx hb dX9_reckon_139 (lv_at hl 3 rfl) ?_
  refine lv_lload hx hb dX9_reckon_141 (lv_at hl 5 rfl) ?_
  refine lv_lload hx hb dX9_reckon_143 (lv_at hl 0 rfl) ?_
  obtain ⟨r59, hq58, h⟩ := pq_i h
  refine r_cV (st' := [.long r59]) [.int x1, .int x7, .int x6, .long x8, .long xs0] [] hC hw kc_8 hi0 (k_X9_made _ hi0 hq58) mk_X9_made lk_1348 ⟨Nat.le_trans (by decide) hR.1, Nat.le_trans (by decide) hR.2⟩ ⟨Nat.zero_le _, Nat.zero_le _⟩ rfl hl.1 rfl rfl (Nat.le_of_ble_eq_true rfl) dX9_reckon_145 (fun hP H locs hw => ?_)
  refine lv_lstore (lv' := [(12, .long r59), (10, .long xs0), (0, .ref a0), (1, .int x1), (6, .int x6), (7, .int x7), (8, .long x8)]) hx hb dX9_reckon_148 hl (by decide) rfl (fun ls hl => ?_)
  refine lv_iload hx hb dX9_reckon_150 (lv_at hl 4 rfl) ?_
  refine lv_if_eq (tgt := 160) hx hb dX9_reckon_152 (by decide) (fun c60 => ?_) (fun c60 => ?_)
  · have h := i_yes c60 h
    refine lv_lload hx hb dX9_reckon_160 (lv_at hl 0 rfl) ?_
    refine lv_ldc2 (v := 4294967295) hx hb hC.2.2.2.1 (hC.2.2.2.2.1 _ lk_1347) dX9_reckon_162 ?_
    refine lv_land hx hb dX9_reckon_165 ?_
    cases h
    exact r_lret hC hw dX9_reckon_166
  · have h := i_no c60 h
    refine lv_lload hx hb dX9_reckon_155 (lv_at hl 0 rfl) ?_
    refine lv_goto (tgt := 166) hx hb dX9_reckon_157 (by decide) ?_
    cases h
    exact r_lret hC hw dX9_reckon_166
set_option maxHeartbeats 4000000 in
set_option maxRecDepth 100000 in
theorem w_X9_reckon_115 {r : Int64} (hC : Cx RX9 cX9_reckon 14 (some .long) p s m args meth c) (hR : 4 ≤ R.frames ∧ 106 ≤ R.locals) : ∀ (o0 a0 : Nat) (x1 : Int32) (x4 : Int64) (x6 : Int32) (x7 : Int32) (xs0 : Int64) (H : Heap) (locs : List Loc) (ls : Array Slot), Is S ad o0 a0 8 → Wd G cA S D ad A s H locs → lv_has ls 14 [(0, .ref a0), (1, .int x1), (4, .long x4), (6, .int x6), (7, .int x7)] → f_X9_reckon_115 S D o0 x1 x4 x6 x7 xs0 = some r → W p l e R s m args below meth c H locs 0 0 (MQ below (Qn (some (.long r)) True (wpost G cA S D ad A) A) args s 0 0 A) (F0 m 115 ls [.long xs0]) := by
  obtain ⟨hx, hb, -⟩ := id hC
  intro o0 a0 x1 x4 x6 x7 xs0 H locs ls hi0 hw hl h
  unfold f_X9_reckon_115 at h
  refine lv_lstore (lv' := [(8, .long xs0), (0, .ref a0), (1, .int x1), (4, .long x4), (6, .int x6), (7, .int x7)]) hx hb dX9_reckon_115 hl (by decide) rfl (fun ls hl => ?_)
  refine lv_iload hx hb dX9_reckon_117 (lv_at hl 4 rfl) ?_
  refine lv_if_eq (tgt := 127) hx hb dX9_reckon_119 (by decide) (fun c61 => ?_) (fun c61 => ?_)
  · have h := i_yes c61 h
    refine lv_lload hx hb dX9_reckon_127 (lv_at hl 3 rfl) ?_
    refine lv_ldc2 (v := 4294967295) hx hb hC.2.2.2.1 (hC.2.2.2.2.1 _ lk_1347) dX9_reckon_129 ?_
    refine lv_land hx hb dX9_reckon_132 ?_
    exact w_X9_reckon_133 hC hR o0 a0 x1 x6 x7 xs0 (x4 &&& (4294967295 : Int64)) _ _ _ hi0 hw (lv_sub hl [1, 2, 4, 5, 0] rfl) h
  · have h := i_no c61 h
    refine lv_lload hx hb dX9_reckon_122 (lv_at hl 3 rfl) ?_
    refine lv_goto (tgt := 133) hx hb dX9_reckon_124 (by decide) ?_
    exact w_X9_reckon_133 hC hR o0 a0 x1 x6 x7 xs0 x4 _ _ _ hi0 hw (lv_sub hl [1, 2, 4, 5, 0] rfl) h
set_option maxHeartbeats 4000000 in
set_option maxRecDepth 100000 in
theorem w_X9_reckon_19 {r : Int64} (hC : Cx RX9 cX9_reckon 14 (some .long) p s m args meth c) (hR : 4 ≤ R.frames ∧ 106 ≤ R.locals) : ∀ (o0 a0 : Nat) (x1 : Int32) (x2 : Int64) (x4 : Int64) (xs0 : Int32) (H : Heap) (locs : List Loc) (ls : Array Slot), Is S ad o0 a0 8 → Wd G cA S D ad A s H locs → lv_has ls 14 [(0, .ref a0), (1, .int x1), (2, .long x2), (4, .long x4)] → f_X9_reckon_19 S D o0 x1 x2 x4 xs0 = some r → W p l e R s m args below meth c H locs 0 0 (MQ below (Qn (some (.long r)) True (wpost G cA S D ad A) A) args s 0 0 A) (F0 m 19 ls [.int xs0]) := by
  obtain ⟨hx, hb, -⟩ := id hC
  intro o0 a0 x1 x2 x4 xs0 H locs ls hi0 hw hl h
  unfold f_X9_reckon_19 at h
  refine lv_istore (lv' := [(6, .int xs0), (0, .ref a0), (1, .int x1), (2, .long x2), (4, .long x4)]) hx hb dX9_reckon_19 hl (by decide) rfl (fun ls hl => ?_)
  refine lv_aload_n hx hb dX9_reckon_21 rfl (lv_at hl 1 rfl) ?_
  obtain ⟨o62, ho65, h⟩ := rq_i h
  refine r_getR hC hw kc_8 hi0 1 rfl lk_1073 dX9_reckon_22 rfl ho65 (fun a63 hi64 => ?_)
  refine lv_iload_n hx hb dX9_reckon_25 rfl (lv_at hl 2 rfl) ?_
  obtain ⟨hn66, h⟩ := ix_i h
  refine r_iald hC hw hi64 hn66 dX9_reckon_26 ?_
  refine lv_iconst (v := 4) hx hb dX9_reckon_27 (by decide) ?_
  refine lv_ishr hx hb dX9_reckon_28 ?_
  refine lv_topi (fun y67 ey67 => ?_)
  have h := nm_i h y67 ey67
  refine lv_istore (lv' := [(7, .int y67), (6, .int xs0), (0, .ref a0), (1, .int x1), (2, .long x2), (4, .long x4)]) hx hb dX9_reckon_29 hl (by decide) rfl (fun ls hl => ?_)
  refine lv_iload hx hb dX9_reckon_31 (lv_at hl 0 rfl) ?_
  refine lv_bipush (v := 13) hx hb dX9_reckon_33 (by decide) ?_
  refine lv_icmp_ne (tgt := 101) hx hb dX9_reckon_35 (by decide) (fun c68 => ?_) (fun c68 => ?_)
  · have h := i_no c68 h
    refine lv_iload hx hb dX9_reckon_101 (lv_at hl 1 rfl) ?_
    refine lv_if_eq (tgt := 110) hx hb dX9_reckon_103 (by decide) (fun c69 => ?_) (fun c69 => ?_)
    · have h := i_yes c69 h
      refine lv_lload_n hx hb dX9_reckon_110 rfl (lv_at hl 4 rfl) ?_
      refine lv_ldc2 (v := 4294967295) hx hb hC.2.2.2.1 (hC.2.2.2.2.1 _ lk_1347) dX9_reckon_111 ?_
      refine lv_land hx hb dX9_reckon_114 ?_
      exact w_X9_reckon_115 hC hR o0 a0 x1 x4 xs0 y67 (x2 &&& (4294967295 : Int64)) _ _ _ hi0 hw (lv_sub hl [2, 3, 5, 1, 0] rfl) h
    · have h := i_no c69 h
      refine lv_lload_n hx hb dX9_reckon_106 rfl (lv_at hl 4 rfl) ?_
      refine lv_goto (tgt := 115) hx hb dX9_reckon_107 (by decide) ?_
      exact w_X9_reckon_115 hC hR o0 a0 x1 x4 xs0 y67 x2 _ _ _ hi0 hw (lv_sub hl [2, 3, 5, 1, 0] rfl) h
  · have h := i_yes c68 h
    refine lv_aload_n hx hb dX9_reckon_38 rfl (lv_at hl 2 rfl) ?_
    obtain ⟨o70, ho73, h⟩ := rq_i h
    refine r_getR hC hw kc_8 hi0 5 rfl lk_1077 dX9_reckon_39 rfl ho73 (fun a71 hi72 => ?_)
    refine lv_iload_n hx hb dX9_reckon_42 rfl (lv_at hl 3 rfl) ?_
    obtain ⟨hn74, h⟩ := ix_i h
    refine r_iald hC hw hi72 hn74 dX9_reckon_43 ?_
    refine lv_bipush (v := 64) hx hb dX9_reckon_44 (by decide) ?_
    refine lv_icmp_ne (tgt := 53) hx hb dX9_reckon_46 (by decide) (fun c75 => ?_) (fun c75 => ?_)
    · have h := i_no c75 h
      refine lv_lload_n hx hb dX9_reckon_53 rfl (lv_at hl 4 rfl) ?_
      refine lv_lconst (v := 1) hx hb dX9_reckon_54 (by decide) ?_
      refine lv_aload_n hx hb dX9_reckon_55 rfl (lv_at hl 2 rfl) ?_
      obtain ⟨o76, ho79, h⟩ := rq_i h
      refine r_getR hC hw kc_8 hi0 5 rfl lk_1077 dX9_reckon_56 rfl ho79 (fun a77 hi78 => ?_)
      refine lv_iload_n hx hb dX9_reckon_59 rfl (lv_at hl 3 rfl) ?_
      obtain ⟨hn80, h⟩ := ix_i h
      refine r_iald hC hw hi78 hn80 dX9_reckon_60 ?_
      refine lv_lshl (v := j_lshl (1 : Int64) (gI D o76 x1.toNatClampNeg)) hx hb dX9_reckon_61 rfl ?_
      refine lv_lconst (v := 1) hx hb dX9_reckon_62 (by decide) ?_
      refine lv_lsub hx hb dX9_reckon_63 ?_
      refine lv_land hx hb dX9_reckon_64 ?_
      exact w_X9_reckon_65 hC hR o0 a0 x1 xs0 (x2 &&& ((j_lshl (1 : Int64) (gI D o76 x1.toNatClampNeg)) - (1 : Int64))) _ _ _ hi0 hw (lv_sub hl [2, 3, 1] rfl) h
    · have h := i_yes c75 h
      refine lv_lload_n hx hb dX9_reckon_49 rfl (lv_at hl 4 rfl) ?_
      refine lv_goto (tgt := 65) hx hb dX9_reckon_50 (by decide) ?_
      exact w_X9_reckon_65 hC hR o0 a0 x1 xs0 x2 _ _ _ hi0 hw (lv_sub hl [2, 3, 1] rfl) h
set_option maxHeartbeats 4000000 in
set_option maxRecDepth 100000 in
theorem w_X9_reckon_0 {r : Int64} (hC : Cx RX9 cX9_reckon 14 (some .long) p s m args meth c) (hR : 4 ≤ R.frames ∧ 106 ≤ R.locals) : ∀ (o0 a0 : Nat) (x1 : Int32) (x2 : Int64) (x4 : Int64) (H : Heap) (locs : List Loc) (ls : Array Slot), Is S ad o0 a0 8 → Wd G cA S D ad A s H locs → lv_has ls 14 [(0, .ref a0), (1, .int x1), (2, .long x2), (4, .long x4)] → f_X9_reckon S D o0 x1 x2 x4 = some r → W p l e R s m args below meth c H locs 0 0 (MQ below (Qn (some (.long r)) True (wpost G cA S D ad A) A) args s 0 0 A) (F0 m 0 ls []) := by
  obtain ⟨hx, hb, -⟩ := id hC
  intro o0 a0 x1 x2 x4 H locs ls hi0 hw hl h
  unfold f_X9_reckon at h
  refine lv_aload_n hx hb dX9_reckon_0 rfl (lv_at hl 0 rfl) ?_
  obtain ⟨o81, ho84, h⟩ := rq_i h
  refine r_getR hC hw kc_8 hi0 1 rfl lk_1073 dX9_reckon_1 rfl ho84 (fun a82 hi83 => ?_)
  refine lv_iload_n hx hb dX9_reckon_4 rfl (lv_at hl 1 rfl) ?_
  obtain ⟨hn85, h⟩ := ix_i h
  refine r_iald hC hw hi83 hn85 dX9_reckon_5 ?_
  refine lv_bipush (v := 7) hx hb dX9_reckon_6 (by decide) ?_
  refine lv_iand hx hb dX9_reckon_8 ?_
  refine lv_bipush (v := 7) hx hb dX9_reckon_9 (by decide) ?_
  refine lv_icmp_ne (tgt := 18) hx hb dX9_reckon_11 (by decide) (fun c86 => ?_) (fun c86 => ?_)
  · have h := i_no c86 h
    refine lv_iconst (v := 0) hx hb dX9_reckon_18 (by decide) ?_
    exact w_X9_reckon_19 hC hR o0 a0 x1 x2 x4 (0 : Int32) _ _ _ hi0 hw (lv_sub hl [0, 1, 2, 3] rfl) h
  · have h := i_yes c86 h
    refine lv_iconst (v := 1) hx hb dX9_reckon_14 (by decide) ?_
    refine lv_goto (tgt := 19) hx hb dX9_reckon_15 (by decide) ?_
    exact w_X9_reckon_19 hC hR o0 a0 x1 x2 x4 (1 : Int32) _ _ _ hi0 hw (lv_sub hl [0, 1, 2, 3] rfl) h
set_option maxHeartbeats 4000000 in
set_option maxRecDepth 100000 in
theorem k_X9_reckon {l : Launch} {G : va_G} {cA : Nat → ClassId} {S : sh} {D : dt} {ad : Nat → Nat} (sz : Nat) {o0 a0 : Nat} {x1 : Int32} {x2 : Int64} {x4 : Int64} {r : Int64} (hi0 : Is S ad o0 a0 8) (h : f_X9_reckon S D o0 x1 x2 x4 = some r) : Co l yX9_reckon (Cond.code yX9_reckon cX9_reckon 14 (some .long) :: tb0) 4 106 [.ref a0, .int x1, .long x2, .long x4] G cA S D ad sz (some (.long r)) True D := by
  refine Met.ofW (cc := cX9_reckon) (maxL := 14) (ret := (some .long)) (by decide) rfl ?_
  intro p e s m args below meth c s₁ B hml hv
  obtain ⟨rfl, hsz, hP, hK, hD0, hT, hX⟩ := hv
  subst hsz
  have hts := atoms_spec (ws := Cond.code yX9_reckon cX9_reckon 14 (some .long) :: tb0) B.pre
  have hC : Cx RX9 cX9_reckon 14 (some .long) p s m _ meth c := ⟨B.exec, B.bytes, hml, findClass_of_methodNamed B.named, fun w q => hts w (List.mem_cons_of_mem _ q), B.returns, B.notSynchronized⟩
  have hw := Wd.entry hP hK hD0 hT hX
  have hl := lv_entry ([.ref a0, .int x1, .long x2, .long x4]) (n := 14) (Nat.le_of_ble_eq_true rfl)
  rw [lg_entry_eq]
  exact w_X9_reckon_0 hC ⟨Nat.le_refl _, Nat.le_refl _⟩ o0 a0 x1 x2 x4 _ _ _ hi0 hw hl h
set_option maxHeartbeats 4000000 in
set_option maxRecDepth 100000 in
theorem w_X9_second_0 {r : Int64} (hC : Cx RX9 cX9_second 2 (some .long) p s m args meth c) (hR : 0 ≤ R.frames ∧ 0 ≤ R.locals) : ∀ (o0 a0 : Nat) (x1 : Int32) (H : Heap) (locs : List Loc) (ls : Array Slot), Is S ad o0 a0 8 → Wd G cA S D ad A s H locs → lv_has ls 2 [(0, .ref a0), (1, .int x1)] → f_X9_second S D o0 x1 = some r → W p l e R s m args below meth c H locs 0 0 (MQ below (Qn (some (.long r)) True (wpost G cA S D ad A) A) args s 0 0 A) (F0 m 0 ls []) := by
  obtain ⟨hx, hb, -⟩ := id hC
  intro o0 a0 x1 H locs ls hi0 hw hl h
  unfold f_X9_second at h
  refine lv_aload_n hx hb dX9_second_0 rfl (lv_at hl 0 rfl) ?_
  obtain ⟨o22, ho25, h⟩ := rq_i h
  refine r_getR hC hw kc_8 hi0 1 rfl lk_1073 dX9_second_1 rfl ho25 (fun a23 hi24 => ?_)
  refine lv_iload_n hx hb dX9_second_4 rfl (lv_at hl 1 rfl) ?_
  obtain ⟨hn26, h⟩ := ix_i h
  refine r_iald hC hw hi24 hn26 dX9_second_5 ?_
  refine lv_bipush (v := 8) hx hb dX9_second_6 (by decide) ?_
  refine lv_iand hx hb dX9_second_8 ?_
  refine lv_if_eq (tgt := 26) hx hb dX9_second_9 (by decide) (fun c27 => ?_) (fun c27 => ?_)
  · have h := i_yes c27 h
    refine lv_aload_n hx hb dX9_second_26 rfl (lv_at hl 0 rfl) ?_
    obtain ⟨o28, ho31, h⟩ := rq_i h
    refine r_getR hC hw kc_8 hi0 5 rfl lk_1077 dX9_second_27 rfl ho31 (fun a29 hi30 => ?_)
    refine lv_iload_n hx hb dX9_second_30 rfl (lv_at hl 1 rfl) ?_
    obtain ⟨hn32, h⟩ := ix_i h
    refine r_iald hC hw hi30 hn32 dX9_second_31 ?_
    refine lv_i2l (v := (gI D o28 x1.toNatClampNeg).toInt64) hx hb dX9_second_32 rfl ?_
    cases h
    exact r_lret hC hw dX9_second_33
  · have h := i_no c27 h
    refine lv_aload_n hx hb dX9_second_12 rfl (lv_at hl 0 rfl) ?_
    obtain ⟨o33, ho36, h⟩ := rq_i h
    refine r_getR hC hw kc_8 hi0 21 rfl lk_1093 dX9_second_13 rfl ho36 (fun a34 hi35 => ?_)
    refine lv_aload_n hx hb dX9_second_16 rfl (lv_at hl 0 rfl) ?_
    obtain ⟨o37, ho40, h⟩ := rq_i h
    refine r_getR hC hw kc_8 hi0 3 rfl lk_1075 dX9_second_17 rfl ho40 (fun a38 hi39 => ?_)
    refine lv_iload_n hx hb dX9_second_20 rfl (lv_at hl 1 rfl) ?_
    obtain ⟨hn41, h⟩ := ix_i h
    refine r_iald hC hw hi39 hn41 dX9_second_21 ?_
    obtain ⟨hn42, h⟩ := ix_i h
    refine r_lald hC hw hi35 hn42 dX9_second_22 ?_
    refine lv_goto (tgt := 33) hx hb dX9_second_23 (by decide) ?_
    cases h
    exact r_lret hC hw dX9_second_33
set_option maxHeartbeats 4000000 in
set_option maxRecDepth 100000 in
theorem k_X9_second {l : Launch} {G : va_G} {cA : Nat → ClassId} {S : sh} {D : dt} {ad : Nat → Nat} (sz : Nat) {o0 a0 : Nat} {x1 : Int32} {r : Int64} (hi0 : Is S ad o0 a0 8) (h : f_X9_second S D o0 x1 = some r) : Co l yX9_second (Cond.code yX9_second cX9_second 2 (some .long) :: tb0) 0 0 [.ref a0, .int x1] G cA S D ad sz (some (.long r)) True D := by
  refine Met.ofW (cc := cX9_second) (maxL := 2) (ret := (some .long)) (by decide) rfl ?_
  intro p e s m args below meth c s₁ B hml hv
  obtain ⟨rfl, hsz, hP, hK, hD0, hT, hX⟩ := hv
  subst hsz
  have hts := atoms_spec (ws := Cond.code yX9_second cX9_second 2 (some .long) :: tb0) B.pre
  have hC : Cx RX9 cX9_second 2 (some .long) p s m _ meth c := ⟨B.exec, B.bytes, hml, findClass_of_methodNamed B.named, fun w q => hts w (List.mem_cons_of_mem _ q), B.returns, B.notSynchronized⟩
  have hw := Wd.entry hP hK hD0 hT hX
  have hl := lv_entry ([.ref a0, .int x1]) (n := 2) (Nat.le_of_ble_eq_true rfl)
  rw [lg_entry_eq]
  exact w_X9_second_0 hC ⟨Nat.le_refl _, Nat.le_refl _⟩ o0 a0 x1 _ _ _ hi0 hw hl h
set_option maxHeartbeats 4000000 in
set_option maxRecDepth 100000 in
theorem w_X9_jumps_296 {r : Int32} (hC : Cx RX9 cX9_jumps 15 (some .boolean) p s m args meth c) (hR : 1 ≤ R.frames ∧ 23 ≤ R.locals) : ∀ (x7 : Int64) (x9 : Int64) (H : Heap) (locs : List Loc) (ls : Array Slot), Wd G cA S D ad A s H locs → lv_has ls 15 [(7, .long x7), (9, .long x9)] → f_X9_jumps_296 S D x7 x9 = some r → W p l e R s m args below meth c H locs 0 0 (MQ below (Qn (some (.int r)) True (wpost G cA S D ad A) A) args s 0 0 A) (F0 m 296 ls []) := by
  obtain ⟨hx, hb, -⟩ := id hC
  intro x7 x9 H locs ls  hw hl h
  unfold f_X9_jumps_296 at h
  refine lv_lload hx hb dX9_jumps_296 (lv_at hl 0 rfl) ?_
  refine lv_lload hx hb dX9_jumps_298 (lv_at hl 1 rfl) ?_
  refine lv_land hx hb dX9_jumps_300 ?_
  refine lv_lconst (v := 0) hx hb dX9_jumps_301 (by decide) ?_
  refine W.lcmp hx hb dX9_jumps_302 ?_
  refine lv_if_eq (tgt := 310) hx hb dX9_jumps_303 (by decide) (fun c52 => ?_) (fun c52 => ?_)
  · have h := i_yes c52 h
    refine lv_iconst (v := 0) hx hb dX9_jumps_310 (by decide) ?_
    cases h
    exact r_zret hC hw (Or.inl rfl) dX9_jumps_311
  · have h := i_no c52 h
    refine lv_iconst (v := 1) hx hb dX9_jumps_306 (by decide) ?_
    refine lv_goto (tgt := 311) hx hb dX9_jumps_307 (by decide) ?_
    cases h
    exact r_zret hC hw (Or.inr rfl) dX9_jumps_311
set_option maxHeartbeats 4000000 in
set_option maxRecDepth 100000 in
theorem w_X9_jumps_88 {r : Int32} (hC : Cx RX9 cX9_jumps 15 (some .boolean) p s m args meth c) (hR : 1 ≤ R.frames ∧ 23 ≤ R.locals) : ∀ (o0 a0 : Nat) (x1 : Int32) (x7 : Int64) (x9 : Int64) (x11 : Int64) (xs0 : Int64) (H : Heap) (locs : List Loc) (ls : Array Slot), Is S ad o0 a0 8 → Wd G cA S D ad A s H locs → lv_has ls 15 [(0, .ref a0), (1, .int x1), (7, .long x7), (9, .long x9), (11, .long x11)] → f_X9_jumps_88 S D o0 x1 x7 x9 x11 xs0 = some r → W p l e R s m args below meth c H locs 0 0 (MQ below (Qn (some (.int r)) True (wpost G cA S D ad A) A) args s 0 0 A) (F0 m 88 ls [.long xs0]) := by
  obtain ⟨hx, hb, -⟩ := id hC
  intro o0 a0 x1 x7 x9 x11 xs0 H locs ls hi0 hw hl h
  unfold f_X9_jumps_88 at h
  refine lv_lstore (lv' := [(13, .long xs0), (0, .ref a0), (1, .int x1), (7, .long x7), (9, .long x9), (11, .long x11)]) hx hb dX9_jumps_88 hl (by decide) rfl (fun ls hl => ?_)
  refine lv_aload_n hx hb dX9_jumps_90 rfl (lv_at hl 1 rfl) ?_
  obtain ⟨o53, ho56, h⟩ := rq_i h
  refine r_getR hC hw kc_8 hi0 1 rfl lk_1073 dX9_jumps_91 rfl ho56 (fun a54 hi55 => ?_)
  refine lv_iload_n hx hb dX9_jumps_94 rfl (lv_at hl 2 rfl) ?_
  obtain ⟨hn57, h⟩ := ix_i h
  refine r_iald hC hw hi55 hn57 dX9_jumps_95 ?_
  refine lv_iconst (v := 4) hx hb dX9_jumps_96 (by decide) ?_
  refine lv_ishr hx hb dX9_jumps_97 ?_
  by_cases c58 : ((gI D o53 x1.toNatClampNeg) >>> ((4 : Int32) &&& 31)) = 1
  · have h := i_yes c58 h
    refine lv_tableIn (off := 66) (tgt := 164) hx hb dX9_jumps_98 (by rw [c58]; decide) (by rw [c58]; decide) (by rw [c58] <;> rfl) (by decide) ?_
    refine lv_lload hx hb dX9_jumps_164 (lv_at hl 3 rfl) ?_
    refine lv_lload hx hb dX9_jumps_166 (lv_at hl 4 rfl) ?_
    refine W.lcmp hx hb dX9_jumps_168 ?_
    refine lv_if_ne (tgt := 176) hx hb dX9_jumps_169 (by decide) (fun c59 => ?_) (fun c59 => ?_)
    · have h := i_no c59 h
      refine lv_iconst (v := 0) hx hb dX9_jumps_176 (by decide) ?_
      cases h
      exact r_zret hC hw (Or.inl rfl) dX9_jumps_177
    · have h := i_yes c59 h
      refine lv_iconst (v := 1) hx hb dX9_jumps_172 (by decide) ?_
      refine lv_goto (tgt := 177) hx hb dX9_jumps_173 (by decide) ?_
      cases h
      exact r_zret hC hw (Or.inr rfl) dX9_jumps_177
  have h := i_no c58 h
  by_cases c60 : ((gI D o53 x1.toNatClampNeg) >>> ((4 : Int32) &&& 31)) = 2
  · have h := i_yes c60 h
    refine lv_tableIn (off := 94) (tgt := 192) hx hb dX9_jumps_98 (by rw [c60]; decide) (by rw [c60]; decide) (by rw [c60] <;> rfl) (by decide) ?_
    refine lv_lload hx hb dX9_jumps_192 (lv_at hl 4 rfl) ?_
    refine lv_lload hx hb dX9_jumps_194 (lv_at hl 3 rfl) ?_
    obtain ⟨r62, hq61, h⟩ := pq_i h
    refine r_cS (st' := [.int r62]) [.long x9, .long x7] [] hC hw (k_X9_isBelow _ hq61) mk_X9_isBelow lk_1358 ⟨Nat.le_trans (by decide) hR.1, Nat.le_trans (by decide) hR.2⟩ ⟨Nat.zero_le _, Nat.zero_le _⟩ rfl hl.1 rfl rfl (Nat.le_of_ble_eq_true rfl) dX9_jumps_196 (fun hP H locs hw => ?_)
    obtain ⟨hz63, h⟩ := ck_i h
    cases h
    exact r_zret hC hw hz63 dX9_jumps_199
  have h := i_no c60 h
  by_cases c64 : ((gI D o53 x1.toNatClampNeg) >>> ((4 : Int32) &&& 31)) = 3
  · have h := i_yes c64 h
    refine lv_tableIn (off := 102) (tgt := 200) hx hb dX9_jumps_98 (by rw [c64]; decide) (by rw [c64]; decide) (by rw [c64] <;> rfl) (by decide) ?_
    refine lv_lload hx hb dX9_jumps_200 (lv_at hl 3 rfl) ?_
    refine lv_lload hx hb dX9_jumps_202 (lv_at hl 4 rfl) ?_
    obtain ⟨r66, hq65, h⟩ := pq_i h
    refine r_cS (st' := [.int r66]) [.long x7, .long x9] [] hC hw (k_X9_isBelow _ hq65) mk_X9_isBelow lk_1358 ⟨Nat.le_trans (by decide) hR.1, Nat.le_trans (by decide) hR.2⟩ ⟨Nat.zero_le _, Nat.zero_le _⟩ rfl hl.1 rfl rfl (Nat.le_of_ble_eq_true rfl) dX9_jumps_204 (fun hP H locs hw => ?_)
    refine lv_if_ne (tgt := 214) hx hb dX9_jumps_207 (by decide) (fun c67 => ?_) (fun c67 => ?_)
    · have h := i_no c67 h
      refine lv_iconst (v := 0) hx hb dX9_jumps_214 (by decide) ?_
      cases h
      exact r_zret hC hw (Or.inl rfl) dX9_jumps_215
    · have h := i_yes c67 h
      refine lv_iconst (v := 1) hx hb dX9_jumps_210 (by decide) ?_
      refine lv_goto (tgt := 215) hx hb dX9_jumps_211 (by decide) ?_
      cases h
      exact r_zret hC hw (Or.inr rfl) dX9_jumps_215
  have h := i_no c64 h
  by_cases c68 : ((gI D o53 x1.toNatClampNeg) >>> ((4 : Int32) &&& 31)) = 4
  · have h := i_yes c68 h
    refine lv_tableIn (off := 198) (tgt := 296) hx hb dX9_jumps_98 (by rw [c68]; decide) (by rw [c68]; decide) (by rw [c68] <;> rfl) (by decide) ?_
    exact w_X9_jumps_296 hC hR x7 x9 _ _ _ hw (lv_sub hl [3, 4] rfl) h
  have h := i_no c68 h
  by_cases c69 : ((gI D o53 x1.toNatClampNeg) >>> ((4 : Int32) &&& 31)) = 5
  · have h := i_yes c69 h
    refine lv_tableIn (off := 80) (tgt := 178) hx hb dX9_jumps_98 (by rw [c69]; decide) (by rw [c69]; decide) (by rw [c69] <;> rfl) (by decide) ?_
    refine lv_lload hx hb dX9_jumps_178 (lv_at hl 3 rfl) ?_
    refine lv_lload hx hb dX9_jumps_180 (lv_at hl 4 rfl) ?_
    refine W.lcmp hx hb dX9_jumps_182 ?_
    refine lv_if_eq (tgt := 190) hx hb dX9_jumps_183 (by decide) (fun c70 => ?_) (fun c70 => ?_)
    · have h := i_yes c70 h
      refine lv_iconst (v := 0) hx hb dX9_jumps_190 (by decide) ?_
      cases h
      exact r_zret hC hw (Or.inl rfl) dX9_jumps_191
    · have h := i_no c70 h
      refine lv_iconst (v := 1) hx hb dX9_jumps_186 (by decide) ?_
      refine lv_goto (tgt := 191) hx hb dX9_jumps_187 (by decide) ?_
      cases h
      exact r_zret hC hw (Or.inr rfl) dX9_jumps_191
  have h := i_no c69 h
  by_cases c71 : ((gI D o53 x1.toNatClampNeg) >>> ((4 : Int32) &&& 31)) = 6
  · have h := i_yes c71 h
    refine lv_tableIn (off := 142) (tgt := 240) hx hb dX9_jumps_98 (by rw [c71]; decide) (by rw [c71]; decide) (by rw [c71] <;> rfl) (by decide) ?_
    refine lv_lload hx hb dX9_jumps_240 (lv_at hl 5 rfl) ?_
    refine lv_lload hx hb dX9_jumps_242 (lv_at hl 0 rfl) ?_
    refine W.lcmp hx hb dX9_jumps_244 ?_
    refine lv_if_le (tgt := 252) hx hb dX9_jumps_245 (by decide) (fun c72 => ?_) (fun c72 => ?_)
    · have h := i_yes c72 h
      refine lv_iconst (v := 0) hx hb dX9_jumps_252 (by decide) ?_
      cases h
      exact r_zret hC hw (Or.inl rfl) dX9_jumps_253
    · have h := i_no c72 h
      refine lv_iconst (v := 1) hx hb dX9_jumps_248 (by decide) ?_
      refine lv_goto (tgt := 253) hx hb dX9_jumps_249 (by decide) ?_
      cases h
      exact r_zret hC hw (Or.inr rfl) dX9_jumps_253
  have h := i_no c71 h
  by_cases c73 : ((gI D o53 x1.toNatClampNeg) >>> ((4 : Int32) &&& 31)) = 7
  · have h := i_yes c73 h
    refine lv_tableIn (off := 156) (tgt := 254) hx hb dX9_jumps_98 (by rw [c73]; decide) (by rw [c73]; decide) (by rw [c73] <;> rfl) (by decide) ?_
    refine lv_lload hx hb dX9_jumps_254 (lv_at hl 5 rfl) ?_
    refine lv_lload hx hb dX9_jumps_256 (lv_at hl 0 rfl) ?_
    refine W.lcmp hx hb dX9_jumps_258 ?_
    refine lv_if_lt (tgt := 266) hx hb dX9_jumps_259 (by decide) (fun c74 => ?_) (fun c74 => ?_)
    · have h := i_yes c74 h
      refine lv_iconst (v := 0) hx hb dX9_jumps_266 (by decide) ?_
      cases h
      exact r_zret hC hw (Or.inl rfl) dX9_jumps_267
    · have h := i_no c74 h
      refine lv_iconst (v := 1) hx hb dX9_jumps_262 (by decide) ?_
      refine lv_goto (tgt := 267) hx hb dX9_jumps_263 (by decide) ?_
      cases h
      exact r_zret hC hw (Or.inr rfl) dX9_jumps_267
  have h := i_no c73 h
  by_cases c75 : ((gI D o53 x1.toNatClampNeg) >>> ((4 : Int32) &&& 31)) = 8
  · have h := i_yes c75 h
    refine lv_tableIn (off := 198) (tgt := 296) hx hb dX9_jumps_98 (by rw [c75]; decide) (by rw [c75]; decide) (by rw [c75] <;> rfl) (by decide) ?_
    exact w_X9_jumps_296 hC hR x7 x9 _ _ _ hw (lv_sub hl [3, 4] rfl) h
  have h := i_no c75 h
  by_cases c76 : ((gI D o53 x1.toNatClampNeg) >>> ((4 : Int32) &&& 31)) = 9
  · have h := i_yes c76 h
    refine lv_tableIn (off := 198) (tgt := 296) hx hb dX9_jumps_98 (by rw [c76]; decide) (by rw [c76]; decide) (by rw [c76] <;> rfl) (by decide) ?_
    exact w_X9_jumps_296 hC hR x7 x9 _ _ _ hw (lv_sub hl [3, 4] rfl) h
  have h := i_no c76 h
  by_cases c77 : ((gI D o53 x1.toNatClampNeg) >>> ((4 : Int32) &&& 31)) = 10
  · have h := i_yes c77 h
    refine lv_tableIn (off := 118) (tgt := 216) hx hb dX9_jumps_98 (by rw [c77]; decide) (by rw [c77]; decide) (by rw [c77] <;> rfl) (by decide) ?_
    refine lv_lload hx hb dX9_jumps_216 (lv_at hl 3 rfl) ?_
    refine lv_lload hx hb dX9_jumps_218 (lv_at hl 4 rfl) ?_
    obtain ⟨r79, hq78, h⟩ := pq_i h
    refine r_cS (st' := [.int r79]) [.long x7, .long x9] [] hC hw (k_X9_isBelow _ hq78) mk_X9_isBelow lk_1358 ⟨Nat.le_trans (by decide) hR.1, Nat.le_trans (by decide) hR.2⟩ ⟨Nat.zero_le _, Nat.zero_le _⟩ rfl hl.1 rfl rfl (Nat.le_of_ble_eq_true rfl) dX9_jumps_220 (fun hP H locs hw => ?_)
    obtain ⟨hz80, h⟩ := ck_i h
    cases h
    exact r_zret hC hw hz80 dX9_jumps_223
  have h := i_no c77 h
  by_cases c81 : ((gI D o53 x1.toNatClampNeg) >>> ((4 : Int32) &&& 31)) = 11
  · have h := i_yes c81 h
    refine lv_tableIn (off := 126) (tgt := 224) hx hb dX9_jumps_98 (by rw [c81]; decide) (by rw [c81]; decide) (by rw [c81] <;> rfl) (by decide) ?_
    refine lv_lload hx hb dX9_jumps_224 (lv_at hl 4 rfl) ?_
    refine lv_lload hx hb dX9_jumps_226 (lv_at hl 3 rfl) ?_
    obtain ⟨r83, hq82, h⟩ := pq_i h
    refine r_cS (st' := [.int r83]) [.long x9, .long x7] [] hC hw (k_X9_isBelow _ hq82) mk_X9_isBelow lk_1358 ⟨Nat.le_trans (by decide) hR.1, Nat.le_trans (by decide) hR.2⟩ ⟨Nat.zero_le _, Nat.zero_le _⟩ rfl hl.1 rfl rfl (Nat.le_of_ble_eq_true rfl) dX9_jumps_228 (fun hP H locs hw => ?_)
    refine lv_if_ne (tgt := 238) hx hb dX9_jumps_231 (by decide) (fun c84 => ?_) (fun c84 => ?_)
    · have h := i_no c84 h
      refine lv_iconst (v := 0) hx hb dX9_jumps_238 (by decide) ?_
      cases h
      exact r_zret hC hw (Or.inl rfl) dX9_jumps_239
    · have h := i_yes c84 h
      refine lv_iconst (v := 1) hx hb dX9_jumps_234 (by decide) ?_
      refine lv_goto (tgt := 239) hx hb dX9_jumps_235 (by decide) ?_
      cases h
      exact r_zret hC hw (Or.inr rfl) dX9_jumps_239
  have h := i_no c81 h
  by_cases c85 : ((gI D o53 x1.toNatClampNeg) >>> ((4 : Int32) &&& 31)) = 12
  · have h := i_yes c85 h
    refine lv_tableIn (off := 170) (tgt := 268) hx hb dX9_jumps_98 (by rw [c85]; decide) (by rw [c85]; decide) (by rw [c85] <;> rfl) (by decide) ?_
    refine lv_lload hx hb dX9_jumps_268 (lv_at hl 5 rfl) ?_
    refine lv_lload hx hb dX9_jumps_270 (lv_at hl 0 rfl) ?_
    refine W.lcmp hx hb dX9_jumps_272 ?_
    refine lv_if_ge (tgt := 280) hx hb dX9_jumps_273 (by decide) (fun c86 => ?_) (fun c86 => ?_)
    · have h := i_yes c86 h
      refine lv_iconst (v := 0) hx hb dX9_jumps_280 (by decide) ?_
      cases h
      exact r_zret hC hw (Or.inl rfl) dX9_jumps_281
    · have h := i_no c86 h
      refine lv_iconst (v := 1) hx hb dX9_jumps_276 (by decide) ?_
      refine lv_goto (tgt := 281) hx hb dX9_jumps_277 (by decide) ?_
      cases h
      exact r_zret hC hw (Or.inr rfl) dX9_jumps_281
  have h := i_no c85 h
  by_cases c87 : ((gI D o53 x1.toNatClampNeg) >>> ((4 : Int32) &&& 31)) = 13
  · have h := i_yes c87 h
    refine lv_tableIn (off := 184) (tgt := 282) hx hb dX9_jumps_98 (by rw [c87]; decide) (by rw [c87]; decide) (by rw [c87] <;> rfl) (by decide) ?_
    refine lv_lload hx hb dX9_jumps_282 (lv_at hl 5 rfl) ?_
    refine lv_lload hx hb dX9_jumps_284 (lv_at hl 0 rfl) ?_
    refine W.lcmp hx hb dX9_jumps_286 ?_
    refine lv_if_gt (tgt := 294) hx hb dX9_jumps_287 (by decide) (fun c88 => ?_) (fun c88 => ?_)
    · have h := i_yes c88 h
      refine lv_iconst (v := 0) hx hb dX9_jumps_294 (by decide) ?_
      cases h
      exact r_zret hC hw (Or.inl rfl) dX9_jumps_295
    · have h := i_no c88 h
      refine lv_iconst (v := 1) hx hb dX9_jumps_290 (by decide) ?_
      refine lv_goto (tgt := 295) hx hb dX9_jumps_291 (by decide) ?_
      cases h
      exact r_zret hC hw (Or.inr rfl) dX9_jumps_295
  have h := i_no c87 h
  refine lv_tableOut (tgt := 296) hx hb dX9_jumps_98 (by have nc58 := lv_neT c58 (a := 1) rfl; have nc60 := lv_neT c60 (a := 2) rfl; have nc64 := lv_neT c64 (a := 3) rfl; have nc68 := lv_neT c68 (a := 4) rfl; have nc69 := lv_neT c69 (a := 5) rfl; have nc71 := lv_neT c71 (a := 6) rfl; have nc73 := lv_neT c73 (a := 7) rfl; have nc75 := lv_neT c75 (a := 8) rfl; have nc76 := lv_neT c76 (a := 9) rfl; have nc77 := lv_neT c77 (a := 10) rfl; have nc81 := lv_neT c81 (a := 11) rfl; have nc85 := lv_neT c85 (a := 12) rfl; have nc87 := lv_neT c87 (a := 13) rfl; omega) (by decide) ?_
  exact w_X9_jumps_296 hC hR x7 x9 _ _ _ hw (lv_sub hl [3, 4] rfl) h
set_option maxHeartbeats 4000000 in
set_option maxRecDepth 100000 in
theorem w_X9_jumps_69 {r : Int32} (hC : Cx RX9 cX9_jumps 15 (some .boolean) p s m args meth c) (hR : 1 ≤ R.frames ∧ 23 ≤ R.locals) : ∀ (o0 a0 : Nat) (x1 : Int32) (x4 : Int64) (x6 : Int32) (x7 : Int64) (x9 : Int64) (xs0 : Int64) (H : Heap) (locs : List Loc) (ls : Array Slot), Is S ad o0 a0 8 → Wd G cA S D ad A s H locs → lv_has ls 15 [(0, .ref a0), (1, .int x1), (4, .long x4), (6, .int x6), (7, .long x7), (9, .long x9)] → f_X9_jumps_69 S D o0 x1 x4 x6 x7 x9 xs0 = some r → W p l e R s m args below meth c H locs 0 0 (MQ below (Qn (some (.int r)) True (wpost G cA S D ad A) A) args s 0 0 A) (F0 m 69 ls [.long xs0]) := by
  obtain ⟨hx, hb, -⟩ := id hC
  intro o0 a0 x1 x4 x6 x7 x9 xs0 H locs ls hi0 hw hl h
  unfold f_X9_jumps_69 at h
  refine lv_lstore (lv' := [(11, .long xs0), (0, .ref a0), (1, .int x1), (4, .long x4), (6, .int x6), (7, .long x7), (9, .long x9)]) hx hb dX9_jumps_69 hl (by decide) rfl (fun ls hl => ?_)
  refine lv_iload hx hb dX9_jumps_71 (lv_at hl 4 rfl) ?_
  refine lv_if_eq (tgt := 81) hx hb dX9_jumps_73 (by decide) (fun c89 => ?_) (fun c89 => ?_)
  · have h := i_yes c89 h
    refine lv_lload hx hb dX9_jumps_81 (lv_at hl 3 rfl) ?_
    refine lv_bipush (v := 32) hx hb dX9_jumps_83 (by decide) ?_
    obtain ⟨r91, hq90, h⟩ := pq_i h
    refine r_cS (st' := [.long r91]) [.long x4, .int (32 : Int32)] [] hC hw (k_X9_signed _ hq90) mk_X9_signed lk_1362 ⟨Nat.le_trans (by decide) hR.1, Nat.le_trans (by decide) hR.2⟩ ⟨Nat.zero_le _, Nat.zero_le _⟩ rfl hl.1 rfl rfl (Nat.le_of_ble_eq_true rfl) dX9_jumps_85 (fun hP H locs hw => ?_)
    exact w_X9_jumps_88 hC hR o0 a0 x1 x7 x9 xs0 r91 _ _ _ hi0 hw (lv_sub hl [1, 2, 5, 6, 0] rfl) h
  · have h := i_no c89 h
    refine lv_lload hx hb dX9_jumps_76 (lv_at hl 3 rfl) ?_
    refine lv_goto (tgt := 88) hx hb dX9_jumps_78 (by decide) ?_
    exact w_X9_jumps_88 hC hR o0 a0 x1 x7 x9 xs0 x4 _ _ _ hi0 hw (lv_sub hl [1, 2, 5, 6, 0] rfl) h
set_option maxHeartbeats 4000000 in
set_option maxRecDepth 100000 in
theorem w_X9_jumps_52 {r : Int32} (hC : Cx RX9 cX9_jumps 15 (some .boolean) p s m args meth c) (hR : 1 ≤ R.frames ∧ 23 ≤ R.locals) : ∀ (o0 a0 : Nat) (x1 : Int32) (x2 : Int64) (x4 : Int64) (x6 : Int32) (x7 : Int64) (xs0 : Int64) (H : Heap) (locs : List Loc) (ls : Array Slot), Is S ad o0 a0 8 → Wd G cA S D ad A s H locs → lv_has ls 15 [(0, .ref a0), (1, .int x1), (2, .long x2), (4, .long x4), (6, .int x6), (7, .long x7)] → f_X9_jumps_52 S D o0 x1 x2 x4 x6 x7 xs0 = some r → W p l e R s m args below meth c H locs 0 0 (MQ below (Qn (some (.int r)) True (wpost G cA S D ad A) A) args s 0 0 A) (F0 m 52 ls [.long xs0]) := by
  obtain ⟨hx, hb, -⟩ := id hC
  intro o0 a0 x1 x2 x4 x6 x7 xs0 H locs ls hi0 hw hl h
  unfold f_X9_jumps_52 at h
  refine lv_lstore (lv' := [(9, .long xs0), (0, .ref a0), (1, .int x1), (2, .long x2), (4, .long x4), (6, .int x6), (7, .long x7)]) hx hb dX9_jumps_52 hl (by decide) rfl (fun ls hl => ?_)
  refine lv_iload hx hb dX9_jumps_54 (lv_at hl 5 rfl) ?_
  refine lv_if_eq (tgt := 63) hx hb dX9_jumps_56 (by decide) (fun c92 => ?_) (fun c92 => ?_)
  · have h := i_yes c92 h
    refine lv_lload_n hx hb dX9_jumps_63 rfl (lv_at hl 3 rfl) ?_
    refine lv_bipush (v := 32) hx hb dX9_jumps_64 (by decide) ?_
    obtain ⟨r94, hq93, h⟩ := pq_i h
    refine r_cS (st' := [.long r94]) [.long x2, .int (32 : Int32)] [] hC hw (k_X9_signed _ hq93) mk_X9_signed lk_1362 ⟨Nat.le_trans (by decide) hR.1, Nat.le_trans (by decide) hR.2⟩ ⟨Nat.zero_le _, Nat.zero_le _⟩ rfl hl.1 rfl rfl (Nat.le_of_ble_eq_true rfl) dX9_jumps_66 (fun hP H locs hw => ?_)
    exact w_X9_jumps_69 hC hR o0 a0 x1 x4 x6 x7 xs0 r94 _ _ _ hi0 hw (lv_sub hl [1, 2, 4, 5, 6, 0] rfl) h
  · have h := i_no c92 h
    refine lv_lload_n hx hb dX9_jumps_59 rfl (lv_at hl 3 rfl) ?_
    refine lv_goto (tgt := 69) hx hb dX9_jumps_60 (by decide) ?_
    exact w_X9_jumps_69 hC hR o0 a0 x1 x4 x6 x7 xs0 x2 _ _ _ hi0 hw (lv_sub hl [1, 2, 4, 5, 6, 0] rfl) h
set_option maxHeartbeats 4000000 in
set_option maxRecDepth 100000 in
theorem w_X9_jumps_34 {r : Int32} (hC : Cx RX9 cX9_jumps 15 (some .boolean) p s m args meth c) (hR : 1 ≤ R.frames ∧ 23 ≤ R.locals) : ∀ (o0 a0 : Nat) (x1 : Int32) (x2 : Int64) (x4 : Int64) (x6 : Int32) (xs0 : Int64) (H : Heap) (locs : List Loc) (ls : Array Slot), Is S ad o0 a0 8 → Wd G cA S D ad A s H locs → lv_has ls 15 [(0, .ref a0), (1, .int x1), (2, .long x2), (4, .long x4), (6, .int x6)] → f_X9_jumps_34 S D o0 x1 x2 x4 x6 xs0 = some r → W p l e R s m args below meth c H locs 0 0 (MQ below (Qn (some (.int r)) True (wpost G cA S D ad A) A) args s 0 0 A) (F0 m 34 ls [.long xs0]) := by
  obtain ⟨hx, hb, -⟩ := id hC
  intro o0 a0 x1 x2 x4 x6 xs0 H locs ls hi0 hw hl h
  unfold f_X9_jumps_34 at h
  refine lv_lstore (lv' := [(7, .long xs0), (0, .ref a0), (1, .int x1), (2, .long x2), (4, .long x4), (6, .int x6)]) hx hb dX9_jumps_34 hl (by decide) rfl (fun ls hl => ?_)
  refine lv_iload hx hb dX9_jumps_36 (lv_at hl 5 rfl) ?_
  refine lv_if_eq (tgt := 46) hx hb dX9_jumps_38 (by decide) (fun c95 => ?_) (fun c95 => ?_)
  · have h := i_yes c95 h
    refine lv_lload hx hb dX9_jumps_46 (lv_at hl 4 rfl) ?_
    refine lv_ldc2 (v := 4294967295) hx hb hC.2.2.2.1 (hC.2.2.2.2.1 _ lk_1347) dX9_jumps_48 ?_
    refine lv_land hx hb dX9_jumps_51 ?_
    exact w_X9_jumps_52 hC hR o0 a0 x1 x2 x4 x6 xs0 (x4 &&& (4294967295 : Int64)) _ _ _ hi0 hw (lv_sub hl [1, 2, 3, 4, 5, 0] rfl) h
  · have h := i_no c95 h
    refine lv_lload hx hb dX9_jumps_41 (lv_at hl 4 rfl) ?_
    refine lv_goto (tgt := 52) hx hb dX9_jumps_43 (by decide) ?_
    exact w_X9_jumps_52 hC hR o0 a0 x1 x2 x4 x6 xs0 x4 _ _ _ hi0 hw (lv_sub hl [1, 2, 3, 4, 5, 0] rfl) h
set_option maxHeartbeats 4000000 in
set_option maxRecDepth 100000 in
theorem w_X9_jumps_18 {r : Int32} (hC : Cx RX9 cX9_jumps 15 (some .boolean) p s m args meth c) (hR : 1 ≤ R.frames ∧ 23 ≤ R.locals) : ∀ (o0 a0 : Nat) (x1 : Int32) (x2 : Int64) (x4 : Int64) (xs0 : Int32) (H : Heap) (locs : List Loc) (ls : Array Slot), Is S ad o0 a0 8 → Wd G cA S D ad A s H locs → lv_has ls 15 [(0, .ref a0), (1, .int x1), (2, .long x2), (4, .long x4)] → f_X9_jumps_18 S D o0 x1 x2 x4 xs0 = some r → W p l e R s m args below meth c H locs 0 0 (MQ below (Qn (some (.int r)) True (wpost G cA S D ad A) A) args s 0 0 A) (F0 m 18 ls [.int xs0]) := by
  obtain ⟨hx, hb, -⟩ := id hC
  intro o0 a0 x1 x2 x4 xs0 H locs ls hi0 hw hl h
  unfold f_X9_jumps_18 at h
  refine lv_istore (lv' := [(6, .int xs0), (0, .ref a0), (1, .int x1), (2, .long x2), (4, .long x4)]) hx hb dX9_jumps_18 hl (by decide) rfl (fun ls hl => ?_)
  refine lv_iload hx hb dX9_jumps_20 (lv_at hl 0 rfl) ?_
  refine lv_if_eq (tgt := 29) hx hb dX9_jumps_22 (by decide) (fun c96 => ?_) (fun c96 => ?_)
  · have h := i_yes c96 h
    refine lv_lload_n hx hb dX9_jumps_29 rfl (lv_at hl 3 rfl) ?_
    refine lv_ldc2 (v := 4294967295) hx hb hC.2.2.2.1 (hC.2.2.2.2.1 _ lk_1347) dX9_jumps_30 ?_
    refine lv_land hx hb dX9_jumps_33 ?_
    exact w_X9_jumps_34 hC hR o0 a0 x1 x2 x4 xs0 (x2 &&& (4294967295 : Int64)) _ _ _ hi0 hw (lv_sub hl [1, 2, 3, 4, 0] rfl) h
  · have h := i_no c96 h
    refine lv_lload_n hx hb dX9_jumps_25 rfl (lv_at hl 3 rfl) ?_
    refine lv_goto (tgt := 34) hx hb dX9_jumps_26 (by decide) ?_
    exact w_X9_jumps_34 hC hR o0 a0 x1 x2 x4 xs0 x2 _ _ _ hi0 hw (lv_sub hl [1, 2, 3, 4, 0] rfl) h
set_option maxHeartbeats 4000000 in
set_option maxRecDepth 100000 in
theorem w_X9_jumps_0 {r : Int32} (hC : Cx RX9 cX9_jumps 15 (some .boolean) p s m args meth c) (hR : 1 ≤ R.frames ∧ 23 ≤ R.locals) : ∀ (o0 a0 : Nat) (x1 : Int32) (x2 : Int64) (x4 : Int64) (H : Heap) (locs : List Loc) (ls : Array Slot), Is S ad o0 a0 8 → Wd G cA S D ad A s H locs → lv_has ls 15 [(0, .ref a0), (1, .int x1), (2, .long x2), (4, .long x4)] → f_X9_jumps S D o0 x1 x2 x4 = some r → W p l e R s m args below meth c H locs 0 0 (MQ below (Qn (some (.int r)) True (wpost G cA S D ad A) A) args s 0 0 A) (F0 m 0 ls []) := by
  obtain ⟨hx, hb, -⟩ := id hC
  intro o0 a0 x1 x2 x4 H locs ls hi0 hw hl h
  unfold f_X9_jumps at h
  refine lv_aload_n hx hb dX9_jumps_0 rfl (lv_at hl 0 rfl) ?_
  obtain ⟨o97, ho100, h⟩ := rq_i h
  refine r_getR hC hw kc_8 hi0 1 rfl lk_1073 dX9_jumps_1 rfl ho100 (fun a98 hi99 => ?_)
  refine lv_iload_n hx hb dX9_jumps_4 rfl (lv_at hl 1 rfl) ?_
  obtain ⟨hn101, h⟩ := ix_i h
  refine r_iald hC hw hi99 hn101 dX9_jumps_5 ?_
  refine lv_bipush (v := 7) hx hb dX9_jumps_6 (by decide) ?_
  refine lv_iand hx hb dX9_jumps_8 ?_
  refine lv_iconst (v := 5) hx hb dX9_jumps_9 (by decide) ?_
  refine lv_icmp_ne (tgt := 17) hx hb dX9_jumps_10 (by decide) (fun c102 => ?_) (fun c102 => ?_)
  · have h := i_no c102 h
    refine lv_iconst (v := 0) hx hb dX9_jumps_17 (by decide) ?_
    exact w_X9_jumps_18 hC hR o0 a0 x1 x2 x4 (0 : Int32) _ _ _ hi0 hw (lv_sub hl [0, 1, 2, 3] rfl) h
  · have h := i_yes c102 h
    refine lv_iconst (v := 1) hx hb dX9_jumps_13 (by decide) ?_
    refine lv_goto (tgt := 18) hx hb dX9_jumps_14 (by decide) ?_
    exact w_X9_jumps_18 hC hR o0 a0 x1 x2 x4 (1 : Int32) _ _ _ hi0 hw (lv_sub hl [0, 1, 2, 3] rfl) h
set_option maxHeartbeats 4000000 in
set_option maxRecDepth 100000 in
theorem k_X9_jumps {l : Launch} {G : va_G} {cA : Nat → ClassId} {S : sh} {D : dt} {ad : Nat → Nat} (sz : Nat) {o0 a0 : Nat} {x1 : Int32} {x2 : Int64} {x4 : Int64} {r : Int32} (hi0 : Is S ad o0 a0 8) (h : f_X9_jumps S D o0 x1 x2 x4 = some r) : Co l yX9_jumps (Cond.code yX9_jumps cX9_jumps 15 (some .boolean) :: tb0) 1 23 [.ref a0, .int x1, .long x2, .long x4] G cA S D ad sz (some (.int r)) True D := by
  refine Met.ofW (cc := cX9_jumps) (maxL := 15) (ret := (some .boolean)) (by decide) rfl ?_
  intro p e s m args below meth c s₁ B hml hv
  obtain ⟨rfl, hsz, hP, hK, hD0, hT, hX⟩ := hv
  subst hsz
  have hts := atoms_spec (ws := Cond.code yX9_jumps cX9_jumps 15 (some .boolean) :: tb0) B.pre
  have hC : Cx RX9 cX9_jumps 15 (some .boolean) p s m _ meth c := ⟨B.exec, B.bytes, hml, findClass_of_methodNamed B.named, fun w q => hts w (List.mem_cons_of_mem _ q), B.returns, B.notSynchronized⟩
  have hw := Wd.entry hP hK hD0 hT hX
  have hl := lv_entry ([.ref a0, .int x1, .long x2, .long x4]) (n := 15) (Nat.le_of_ble_eq_true rfl)
  rw [lg_entry_eq]
  exact w_X9_jumps_0 hC ⟨Nat.le_refl _, Nat.le_refl _⟩ o0 a0 x1 x2 x4 _ _ _ hi0 hw hl h
set_option maxHeartbeats 4000000 in
set_option maxRecDepth 100000 in
theorem w_X9_tableOf_0 {r : Int32} (hC : Cx RX9 cX9_tableOf 5 (some .int) p s m args meth c) (hR : 0 ≤ R.frames ∧ 0 ≤ R.locals) : ∀ (o0 a0 : Nat) (x1 : Int64) (H : Heap) (locs : List Loc) (ls : Array Slot), Is S ad o0 a0 8 → Wd G cA S D ad A s H locs → lv_has ls 5 [(0, .ref a0), (1, .long x1)] → f_X9_tableOf S D o0 x1 = some r → W p l e R s m args below meth c H locs 0 0 (MQ below (Qn (some (.int r)) True (wpost G cA S D ad A) A) args s 0 0 A) (F0 m 0 ls []) := by
  obtain ⟨hx, hb, -⟩ := id hC
  intro o0 a0 x1 H locs ls hi0 hw hl h
  unfold f_X9_tableOf at h
  refine lv_lload_n hx hb dX9_tableOf_0 rfl (lv_at hl 1 rfl) ?_
  refine lv_ldc2 (v := 34359738368) hx hb hC.2.2.2.1 (hC.2.2.2.2.1 _ lk_1276) dX9_tableOf_1 ?_
  refine lv_lsub hx hb dX9_tableOf_4 ?_
  refine lv_bipush (v := 24) hx hb dX9_tableOf_5 (by decide) ?_
  refine lv_lshr (v := j_lshr (x1 - (34359738368 : Int64)) (24 : Int32)) hx hb dX9_tableOf_7 rfl ?_
  refine lv_topl (fun y4 ey4 => ?_)
  have h := nm_i h y4 ey4
  refine lv_lstore_n (lv' := [(3, .long y4), (0, .ref a0), (1, .long x1)]) hx hb dX9_tableOf_8 rfl hl (by decide) rfl (fun ls hl => ?_)
  refine lv_lload_n hx hb dX9_tableOf_9 rfl (lv_at hl 2 rfl) ?_
  refine lv_ldc2 (v := 34359738368) hx hb hC.2.2.2.1 (hC.2.2.2.2.1 _ lk_1276) dX9_tableOf_10 ?_
  refine W.lcmp hx hb dX9_tableOf_13 ?_
  refine lv_if_lt (tgt := 32) hx hb dX9_tableOf_14 (by decide) (fun c5 => ?_) (fun c5 => ?_)
  · have h := i_yes c5 h
    refine lv_iconst (v := (-1)) hx hb dX9_tableOf_32 (by decide) ?_
    cases h
    exact r_iret hC hw dX9_tableOf_33
  · have h := i_no c5 h
    refine lv_lload_n hx hb dX9_tableOf_17 rfl (lv_at hl 0 rfl) ?_
    refine lv_aload_n hx hb dX9_tableOf_18 rfl (lv_at hl 1 rfl) ?_
    refine r_gI hC hw kc_8 hi0 9 rfl lk_1081 dX9_tableOf_19 ?_
    refine lv_i2l (v := (gI D o0 9).toInt64) hx hb dX9_tableOf_22 rfl ?_
    refine W.lcmp hx hb dX9_tableOf_23 ?_
    refine lv_if_ge (tgt := 32) hx hb dX9_tableOf_24 (by decide) (fun c6 => ?_) (fun c6 => ?_)
    · have h := i_yes c6 h
      refine lv_iconst (v := (-1)) hx hb dX9_tableOf_32 (by decide) ?_
      cases h
      exact r_iret hC hw dX9_tableOf_33
    · have h := i_no c6 h
      refine lv_lload_n hx hb dX9_tableOf_27 rfl (lv_at hl 0 rfl) ?_
      refine lv_l2i (v := y4.toInt32) hx hb dX9_tableOf_28 rfl ?_
      refine lv_goto (tgt := 33) hx hb dX9_tableOf_29 (by decide) ?_
      cases h
      exact r_iret hC hw dX9_tableOf_33
set_option maxHeartbeats 4000000 in
set_option maxRecDepth 100000 in
theorem k_X9_tableOf {l : Launch} {G : va_G} {cA : Nat → ClassId} {S : sh} {D : dt} {ad : Nat → Nat} (sz : Nat) {o0 a0 : Nat} {x1 : Int64} {r : Int32} (hi0 : Is S ad o0 a0 8) (h : f_X9_tableOf S D o0 x1 = some r) : Co l yX9_tableOf (Cond.code yX9_tableOf cX9_tableOf 5 (some .int) :: tb0) 0 0 [.ref a0, .long x1] G cA S D ad sz (some (.int r)) True D := by
  refine Met.ofW (cc := cX9_tableOf) (maxL := 5) (ret := (some .int)) (by decide) rfl ?_
  intro p e s m args below meth c s₁ B hml hv
  obtain ⟨rfl, hsz, hP, hK, hD0, hT, hX⟩ := hv
  subst hsz
  have hts := atoms_spec (ws := Cond.code yX9_tableOf cX9_tableOf 5 (some .int) :: tb0) B.pre
  have hC : Cx RX9 cX9_tableOf 5 (some .int) p s m _ meth c := ⟨B.exec, B.bytes, hml, findClass_of_methodNamed B.named, fun w q => hts w (List.mem_cons_of_mem _ q), B.returns, B.notSynchronized⟩
  have hw := Wd.entry hP hK hD0 hT hX
  have hl := lv_entry ([.ref a0, .long x1]) (n := 5) (Nat.le_of_ble_eq_true rfl)
  rw [lg_entry_eq]
  exact w_X9_tableOf_0 hC ⟨Nat.le_refl _, Nat.le_refl _⟩ o0 a0 x1 _ _ _ hi0 hw hl h
end

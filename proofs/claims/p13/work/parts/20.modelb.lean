theorem dX9_isHelper_0 : decode cX9_isHelper 0 = .ok (.iload_n 0, 1) := by decide +kernel
theorem dX9_isHelper_1 : decode cX9_isHelper 1 = .ok (.i2l, 1) := by decide +kernel
theorem dX9_isHelper_2 : decode cX9_isHelper 2 = .ok (.lconst 1, 1) := by decide +kernel
theorem dX9_isHelper_3 : decode cX9_isHelper 3 = .ok (.ldc2_w 173, 3) := by decide +kernel
theorem dX9_isHelper_6 : decode cX9_isHelper 6 = .ok (.invokestatic 132, 3) := by decide +kernel
theorem dX9_isHelper_9 : decode cX9_isHelper 9 = .ok (.ifCond .ne 14, 3) := by decide +kernel
theorem dX9_isHelper_12 : decode cX9_isHelper 12 = .ok (.iload_n 0, 1) := by decide +kernel
theorem dX9_isHelper_13 : decode cX9_isHelper 13 = .ok (.iconst 5, 1) := by decide +kernel
theorem dX9_isHelper_14 : decode cX9_isHelper 14 = .ok (.if_icmp .eq 9, 3) := by decide +kernel
theorem dX9_isHelper_17 : decode cX9_isHelper 17 = .ok (.iload_n 0, 1) := by decide +kernel
theorem dX9_isHelper_18 : decode cX9_isHelper 18 = .ok (.bipush 6, 2) := by decide +kernel
theorem dX9_isHelper_20 : decode cX9_isHelper 20 = .ok (.if_icmp .ne 7, 3) := by decide +kernel
theorem dX9_isHelper_23 : decode cX9_isHelper 23 = .ok (.iconst 1, 1) := by decide +kernel
theorem dX9_isHelper_24 : decode cX9_isHelper 24 = .ok (.goto 4, 3) := by decide +kernel
theorem dX9_isHelper_27 : decode cX9_isHelper 27 = .ok (.iconst 0, 1) := by decide +kernel
theorem dX9_isHelper_28 : decode cX9_isHelper 28 = .ok (.ireturn, 1) := by decide +kernel
theorem dX9_jumpKind_0 : decode cX9_jumpKind 0 = .ok (.aload_n 0, 1) := by decide +kernel
theorem dX9_jumpKind_1 : decode cX9_jumpKind 1 = .ok (.getfield 7, 3) := by decide +kernel
theorem dX9_jumpKind_4 : decode cX9_jumpKind 4 = .ok (.iload_n 1, 1) := by decide +kernel
theorem dX9_jumpKind_5 : decode cX9_jumpKind 5 = .ok (.iaload, 1) := by decide +kernel
theorem dX9_jumpKind_6 : decode cX9_jumpKind 6 = .ok (.iconst 4, 1) := by decide +kernel
theorem dX9_jumpKind_7 : decode cX9_jumpKind 7 = .ok (.ishr, 1) := by decide +kernel
theorem dX9_jumpKind_8 : decode cX9_jumpKind 8 = .ok (.istore_n 3, 1) := by decide +kernel
theorem dX9_jumpKind_9 : decode cX9_jumpKind 9 = .ok (.aload_n 0, 1) := by decide +kernel
theorem dX9_jumpKind_10 : decode cX9_jumpKind 10 = .ok (.getfield 7, 3) := by decide +kernel
theorem dX9_jumpKind_13 : decode cX9_jumpKind 13 = .ok (.iload_n 1, 1) := by decide +kernel
theorem dX9_jumpKind_14 : decode cX9_jumpKind 14 = .ok (.iaload, 1) := by decide +kernel
theorem dX9_jumpKind_15 : decode cX9_jumpKind 15 = .ok (.bipush 8, 2) := by decide +kernel
theorem dX9_jumpKind_17 : decode cX9_jumpKind 17 = .ok (.iand, 1) := by decide +kernel
theorem dX9_jumpKind_18 : decode cX9_jumpKind 18 = .ok (.ifCond .eq 7, 3) := by decide +kernel
theorem dX9_jumpKind_21 : decode cX9_jumpKind 21 = .ok (.iconst 1, 1) := by decide +kernel
theorem dX9_jumpKind_22 : decode cX9_jumpKind 22 = .ok (.goto 4, 3) := by decide +kernel
theorem dX9_jumpKind_25 : decode cX9_jumpKind 25 = .ok (.iconst 0, 1) := by decide +kernel
theorem dX9_jumpKind_26 : decode cX9_jumpKind 26 = .ok (.istore 4, 2) := by decide +kernel
theorem dX9_jumpKind_28 : decode cX9_jumpKind 28 = .ok (.iload_n 3, 1) := by decide +kernel
theorem dX9_jumpKind_29 : decode cX9_jumpKind 29 = .ok (.ifCond .eq 15, 3) := by decide +kernel
theorem dX9_jumpKind_32 : decode cX9_jumpKind 32 = .ok (.iload_n 3, 1) := by decide +kernel
theorem dX9_jumpKind_33 : decode cX9_jumpKind 33 = .ok (.bipush 8, 2) := by decide +kernel
theorem dX9_jumpKind_35 : decode cX9_jumpKind 35 = .ok (.if_icmp .eq 9, 3) := by decide +kernel
theorem dX9_jumpKind_38 : decode cX9_jumpKind 38 = .ok (.iload_n 3, 1) := by decide +kernel
theorem dX9_jumpKind_39 : decode cX9_jumpKind 39 = .ok (.bipush 9, 2) := by decide +kernel
theorem dX9_jumpKind_41 : decode cX9_jumpKind 41 = .ok (.if_icmp .ne 123, 3) := by decide +kernel
theorem dX9_jumpKind_44 : decode cX9_jumpKind 44 = .ok (.iload 4, 2) := by decide +kernel
theorem dX9_jumpKind_46 : decode cX9_jumpKind 46 = .ok (.ifCond .ne 29, 3) := by decide +kernel
theorem dX9_jumpKind_49 : decode cX9_jumpKind 49 = .ok (.aload_n 0, 1) := by decide +kernel
theorem dX9_jumpKind_50 : decode cX9_jumpKind 50 = .ok (.getfield 13, 3) := by decide +kernel
theorem dX9_jumpKind_53 : decode cX9_jumpKind 53 = .ok (.iload_n 1, 1) := by decide +kernel
theorem dX9_jumpKind_54 : decode cX9_jumpKind 54 = .ok (.iaload, 1) := by decide +kernel
theorem dX9_jumpKind_55 : decode cX9_jumpKind 55 = .ok (.ifCond .ne 20, 3) := by decide +kernel
theorem dX9_jumpKind_58 : decode cX9_jumpKind 58 = .ok (.aload_n 0, 1) := by decide +kernel
theorem dX9_jumpKind_59 : decode cX9_jumpKind 59 = .ok (.getfield 16, 3) := by decide +kernel
theorem dX9_jumpKind_62 : decode cX9_jumpKind 62 = .ok (.iload_n 1, 1) := by decide +kernel
theorem dX9_jumpKind_63 : decode cX9_jumpKind 63 = .ok (.iaload, 1) := by decide +kernel
theorem dX9_jumpKind_64 : decode cX9_jumpKind 64 = .ok (.ifCond .ne 11, 3) := by decide +kernel
theorem dX9_jumpKind_67 : decode cX9_jumpKind 67 = .ok (.iload_n 2, 1) := by decide +kernel
theorem dX9_jumpKind_68 : decode cX9_jumpKind 68 = .ok (.ifCond .ne 9, 3) := by decide +kernel
theorem dX9_jumpKind_71 : decode cX9_jumpKind 71 = .ok (.iload_n 3, 1) := by decide +kernel
theorem dX9_jumpKind_72 : decode cX9_jumpKind 72 = .ok (.ifCond .eq 5, 3) := by decide +kernel
theorem dX9_jumpKind_75 : decode cX9_jumpKind 75 = .ok (.iconst 0, 1) := by decide +kernel
theorem dX9_jumpKind_76 : decode cX9_jumpKind 76 = .ok (.ireturn, 1) := by decide +kernel
theorem dX9_jumpKind_77 : decode cX9_jumpKind 77 = .ok (.iload_n 3, 1) := by decide +kernel
theorem dX9_jumpKind_78 : decode cX9_jumpKind 78 = .ok (.ifCond .ne 34, 3) := by decide +kernel
theorem dX9_jumpKind_81 : decode cX9_jumpKind 81 = .ok (.iload_n 2, 1) := by decide +kernel
theorem dX9_jumpKind_82 : decode cX9_jumpKind 82 = .ok (.ifCond .eq 15, 3) := by decide +kernel
theorem dX9_jumpKind_85 : decode cX9_jumpKind 85 = .ok (.aload_n 0, 1) := by decide +kernel
theorem dX9_jumpKind_86 : decode cX9_jumpKind 86 = .ok (.getfield 22, 3) := by decide +kernel
theorem dX9_jumpKind_89 : decode cX9_jumpKind 89 = .ok (.iload_n 1, 1) := by decide +kernel
theorem dX9_jumpKind_90 : decode cX9_jumpKind 90 = .ok (.iaload, 1) := by decide +kernel
theorem dX9_jumpKind_91 : decode cX9_jumpKind 91 = .ok (.ifCond .ne 19, 3) := by decide +kernel
theorem dX9_jumpKind_94 : decode cX9_jumpKind 94 = .ok (.goto 12, 3) := by decide +kernel
theorem dX9_jumpKind_97 : decode cX9_jumpKind 97 = .ok (.aload_n 0, 1) := by decide +kernel
theorem dX9_jumpKind_98 : decode cX9_jumpKind 98 = .ok (.getfield 19, 3) := by decide +kernel
theorem dX9_jumpKind_101 : decode cX9_jumpKind 101 = .ok (.iload_n 1, 1) := by decide +kernel
theorem dX9_jumpKind_102 : decode cX9_jumpKind 102 = .ok (.iaload, 1) := by decide +kernel
theorem dX9_jumpKind_103 : decode cX9_jumpKind 103 = .ok (.ifCond .ne 7, 3) := by decide +kernel
theorem dX9_jumpKind_106 : decode cX9_jumpKind 106 = .ok (.iconst 3, 1) := by decide +kernel
theorem dX9_jumpKind_107 : decode cX9_jumpKind 107 = .ok (.goto 4, 3) := by decide +kernel
theorem dX9_jumpKind_110 : decode cX9_jumpKind 110 = .ok (.iconst 0, 1) := by decide +kernel
theorem dX9_jumpKind_111 : decode cX9_jumpKind 111 = .ok (.ireturn, 1) := by decide +kernel
theorem dX9_jumpKind_112 : decode cX9_jumpKind 112 = .ok (.aload_n 0, 1) := by decide +kernel
theorem dX9_jumpKind_113 : decode cX9_jumpKind 113 = .ok (.getfield 19, 3) := by decide +kernel
theorem dX9_jumpKind_116 : decode cX9_jumpKind 116 = .ok (.iload_n 1, 1) := by decide +kernel
theorem dX9_jumpKind_117 : decode cX9_jumpKind 117 = .ok (.iaload, 1) := by decide +kernel
theorem dX9_jumpKind_118 : decode cX9_jumpKind 118 = .ok (.ifCond .eq 5, 3) := by decide +kernel
theorem dX9_jumpKind_121 : decode cX9_jumpKind 121 = .ok (.iconst 0, 1) := by decide +kernel
theorem dX9_jumpKind_122 : decode cX9_jumpKind 122 = .ok (.ireturn, 1) := by decide +kernel
theorem dX9_jumpKind_123 : decode cX9_jumpKind 123 = .ok (.iload_n 3, 1) := by decide +kernel
theorem dX9_jumpKind_124 : decode cX9_jumpKind 124 = .ok (.bipush 9, 2) := by decide +kernel
theorem dX9_jumpKind_126 : decode cX9_jumpKind 126 = .ok (.if_icmp .ne 20, 3) := by decide +kernel
theorem dX9_jumpKind_129 : decode cX9_jumpKind 129 = .ok (.aload_n 0, 1) := by decide +kernel
theorem dX9_jumpKind_130 : decode cX9_jumpKind 130 = .ok (.getfield 22, 3) := by decide +kernel
theorem dX9_jumpKind_133 : decode cX9_jumpKind 133 = .ok (.iload_n 1, 1) := by decide +kernel
theorem dX9_jumpKind_134 : decode cX9_jumpKind 134 = .ok (.iaload, 1) := by decide +kernel
theorem dX9_jumpKind_135 : decode cX9_jumpKind 135 = .ok (.ifCond .ne 7, 3) := by decide +kernel
theorem dX9_jumpKind_138 : decode cX9_jumpKind 138 = .ok (.iconst 4, 1) := by decide +kernel
theorem dX9_jumpKind_139 : decode cX9_jumpKind 139 = .ok (.goto 24, 3) := by decide +kernel
theorem dX9_jumpKind_142 : decode cX9_jumpKind 142 = .ok (.iconst 0, 1) := by decide +kernel
theorem dX9_jumpKind_143 : decode cX9_jumpKind 143 = .ok (.goto 20, 3) := by decide +kernel
theorem dX9_jumpKind_146 : decode cX9_jumpKind 146 = .ok (.aload_n 0, 1) := by decide +kernel
theorem dX9_jumpKind_147 : decode cX9_jumpKind 147 = .ok (.getfield 22, 3) := by decide +kernel
theorem dX9_jumpKind_150 : decode cX9_jumpKind 150 = .ok (.iload_n 1, 1) := by decide +kernel
theorem dX9_jumpKind_151 : decode cX9_jumpKind 151 = .ok (.iaload, 1) := by decide +kernel
theorem dX9_jumpKind_152 : decode cX9_jumpKind 152 = .ok (.invokestatic 169, 3) := by decide +kernel
theorem dX9_jumpKind_155 : decode cX9_jumpKind 155 = .ok (.ifCond .eq 7, 3) := by decide +kernel
theorem dX9_jumpKind_158 : decode cX9_jumpKind 158 = .ok (.iconst 5, 1) := by decide +kernel
theorem dX9_jumpKind_159 : decode cX9_jumpKind 159 = .ok (.goto 4, 3) := by decide +kernel
theorem dX9_jumpKind_162 : decode cX9_jumpKind 162 = .ok (.iconst 0, 1) := by decide +kernel
theorem dX9_jumpKind_163 : decode cX9_jumpKind 163 = .ok (.ireturn, 1) := by decide +kernel
theorem dX9_jumpKind_164 : decode cX9_jumpKind 164 = .ok (.iload_n 3, 1) := by decide +kernel
theorem dX9_jumpKind_165 : decode cX9_jumpKind 165 = .ok (.bipush 13, 2) := by decide +kernel
theorem dX9_jumpKind_167 : decode cX9_jumpKind 167 = .ok (.if_icmp .gt 14, 3) := by decide +kernel
theorem dX9_jumpKind_170 : decode cX9_jumpKind 170 = .ok (.aload_n 0, 1) := by decide +kernel
theorem dX9_jumpKind_171 : decode cX9_jumpKind 171 = .ok (.getfield 13, 3) := by decide +kernel
theorem dX9_jumpKind_174 : decode cX9_jumpKind 174 = .ok (.iload_n 1, 1) := by decide +kernel
theorem dX9_jumpKind_175 : decode cX9_jumpKind 175 = .ok (.iaload, 1) := by decide +kernel
theorem dX9_jumpKind_176 : decode cX9_jumpKind 176 = .ok (.bipush 11, 2) := by decide +kernel
theorem dX9_jumpKind_178 : decode cX9_jumpKind 178 = .ok (.if_icmp .lt 5, 3) := by decide +kernel
theorem dX9_jumpKind_181 : decode cX9_jumpKind 181 = .ok (.iconst 0, 1) := by decide +kernel
theorem dX9_jumpKind_182 : decode cX9_jumpKind 182 = .ok (.ireturn, 1) := by decide +kernel
theorem dX9_jumpKind_183 : decode cX9_jumpKind 183 = .ok (.iload 4, 2) := by decide +kernel
theorem dX9_jumpKind_185 : decode cX9_jumpKind 185 = .ok (.ifCond .eq 26, 3) := by decide +kernel
theorem dX9_jumpKind_188 : decode cX9_jumpKind 188 = .ok (.aload_n 0, 1) := by decide +kernel
theorem dX9_jumpKind_189 : decode cX9_jumpKind 189 = .ok (.getfield 22, 3) := by decide +kernel
theorem dX9_jumpKind_192 : decode cX9_jumpKind 192 = .ok (.iload_n 1, 1) := by decide +kernel
theorem dX9_jumpKind_193 : decode cX9_jumpKind 193 = .ok (.iaload, 1) := by decide +kernel
theorem dX9_jumpKind_194 : decode cX9_jumpKind 194 = .ok (.ifCond .ne 30, 3) := by decide +kernel
theorem dX9_jumpKind_197 : decode cX9_jumpKind 197 = .ok (.aload_n 0, 1) := by decide +kernel
theorem dX9_jumpKind_198 : decode cX9_jumpKind 198 = .ok (.getfield 16, 3) := by decide +kernel
theorem dX9_jumpKind_201 : decode cX9_jumpKind 201 = .ok (.iload_n 1, 1) := by decide +kernel
theorem dX9_jumpKind_202 : decode cX9_jumpKind 202 = .ok (.iaload, 1) := by decide +kernel
theorem dX9_jumpKind_203 : decode cX9_jumpKind 203 = .ok (.bipush 11, 2) := by decide +kernel
theorem dX9_jumpKind_205 : decode cX9_jumpKind 205 = .ok (.if_icmp .ge 19, 3) := by decide +kernel
theorem dX9_jumpKind_208 : decode cX9_jumpKind 208 = .ok (.goto 12, 3) := by decide +kernel
theorem dX9_jumpKind_211 : decode cX9_jumpKind 211 = .ok (.aload_n 0, 1) := by decide +kernel
theorem dX9_jumpKind_212 : decode cX9_jumpKind 212 = .ok (.getfield 16, 3) := by decide +kernel
theorem dX9_jumpKind_215 : decode cX9_jumpKind 215 = .ok (.iload_n 1, 1) := by decide +kernel
theorem dX9_jumpKind_216 : decode cX9_jumpKind 216 = .ok (.iaload, 1) := by decide +kernel
theorem dX9_jumpKind_217 : decode cX9_jumpKind 217 = .ok (.ifCond .ne 7, 3) := by decide +kernel
theorem dX9_jumpKind_220 : decode cX9_jumpKind 220 = .ok (.iconst 2, 1) := by decide +kernel
theorem dX9_jumpKind_221 : decode cX9_jumpKind 221 = .ok (.goto 4, 3) := by decide +kernel
theorem dX9_jumpKind_224 : decode cX9_jumpKind 224 = .ok (.iconst 0, 1) := by decide +kernel
theorem dX9_jumpKind_225 : decode cX9_jumpKind 225 = .ok (.ireturn, 1) := by decide +kernel
theorem dX9_loadKind_0 : decode cX9_loadKind 0 = .ok (.aload_n 0, 1) := by decide +kernel
theorem dX9_loadKind_1 : decode cX9_loadKind 1 = .ok (.getfield 22, 3) := by decide +kernel
theorem dX9_loadKind_4 : decode cX9_loadKind 4 = .ok (.iload_n 1, 1) := by decide +kernel
theorem dX9_loadKind_5 : decode cX9_loadKind 5 = .ok (.iaload, 1) := by decide +kernel
theorem dX9_loadKind_6 : decode cX9_loadKind 6 = .ok (.ifCond .ne 25, 3) := by decide +kernel
theorem dX9_loadKind_9 : decode cX9_loadKind 9 = .ok (.aload_n 0, 1) := by decide +kernel
theorem dX9_loadKind_10 : decode cX9_loadKind 10 = .ok (.getfield 13, 3) := by decide +kernel
theorem dX9_loadKind_13 : decode cX9_loadKind 13 = .ok (.iload_n 1, 1) := by decide +kernel
theorem dX9_loadKind_14 : decode cX9_loadKind 14 = .ok (.iaload, 1) := by decide +kernel
theorem dX9_loadKind_15 : decode cX9_loadKind 15 = .ok (.bipush 9, 2) := by decide +kernel
theorem dX9_loadKind_17 : decode cX9_loadKind 17 = .ok (.if_icmp .gt 14, 3) := by decide +kernel
theorem dX9_loadKind_20 : decode cX9_loadKind 20 = .ok (.aload_n 0, 1) := by decide +kernel
theorem dX9_loadKind_21 : decode cX9_loadKind 21 = .ok (.getfield 16, 3) := by decide +kernel
theorem dX9_loadKind_24 : decode cX9_loadKind 24 = .ok (.iload_n 1, 1) := by decide +kernel
theorem dX9_loadKind_25 : decode cX9_loadKind 25 = .ok (.iaload, 1) := by decide +kernel
theorem dX9_loadKind_26 : decode cX9_loadKind 26 = .ok (.bipush 11, 2) := by decide +kernel
theorem dX9_loadKind_28 : decode cX9_loadKind 28 = .ok (.if_icmp .lt 5, 3) := by decide +kernel
theorem dX9_loadKind_31 : decode cX9_loadKind 31 = .ok (.iconst 0, 1) := by decide +kernel
theorem dX9_loadKind_32 : decode cX9_loadKind 32 = .ok (.ireturn, 1) := by decide +kernel
theorem dX9_loadKind_33 : decode cX9_loadKind 33 = .ok (.aload_n 0, 1) := by decide +kernel
theorem dX9_loadKind_34 : decode cX9_loadKind 34 = .ok (.getfield 7, 3) := by decide +kernel
theorem dX9_loadKind_37 : decode cX9_loadKind 37 = .ok (.iload_n 1, 1) := by decide +kernel
theorem dX9_loadKind_38 : decode cX9_loadKind 38 = .ok (.iaload, 1) := by decide +kernel
theorem dX9_loadKind_39 : decode cX9_loadKind 39 = .ok (.bipush (-25), 2) := by decide +kernel
theorem dX9_loadKind_41 : decode cX9_loadKind 41 = .ok (.iand, 1) := by decide +kernel
theorem dX9_loadKind_42 : decode cX9_loadKind 42 = .ok (.bipush 97, 2) := by decide +kernel
theorem dX9_loadKind_44 : decode cX9_loadKind 44 = .ok (.if_icmp .ne 8, 3) := by decide +kernel
theorem dX9_loadKind_47 : decode cX9_loadKind 47 = .ok (.bipush 6, 2) := by decide +kernel
theorem dX9_loadKind_49 : decode cX9_loadKind 49 = .ok (.goto 36, 3) := by decide +kernel
theorem dX9_loadKind_52 : decode cX9_loadKind 52 = .ok (.aload_n 0, 1) := by decide +kernel
theorem dX9_loadKind_53 : decode cX9_loadKind 53 = .ok (.getfield 7, 3) := by decide +kernel
theorem dX9_loadKind_56 : decode cX9_loadKind 56 = .ok (.iload_n 1, 1) := by decide +kernel
theorem dX9_loadKind_57 : decode cX9_loadKind 57 = .ok (.iaload, 1) := by decide +kernel
theorem dX9_loadKind_58 : decode cX9_loadKind 58 = .ok (.bipush (-25), 2) := by decide +kernel
theorem dX9_loadKind_60 : decode cX9_loadKind 60 = .ok (.iand, 1) := by decide +kernel
theorem dX9_loadKind_61 : decode cX9_loadKind 61 = .ok (.sipush 129, 3) := by decide +kernel
theorem dX9_loadKind_64 : decode cX9_loadKind 64 = .ok (.if_icmp .ne 20, 3) := by decide +kernel
theorem dX9_loadKind_67 : decode cX9_loadKind 67 = .ok (.aload_n 0, 1) := by decide +kernel
theorem dX9_loadKind_68 : decode cX9_loadKind 68 = .ok (.getfield 7, 3) := by decide +kernel
theorem dX9_loadKind_71 : decode cX9_loadKind 71 = .ok (.iload_n 1, 1) := by decide +kernel
theorem dX9_loadKind_72 : decode cX9_loadKind 72 = .ok (.iaload, 1) := by decide +kernel
theorem dX9_loadKind_73 : decode cX9_loadKind 73 = .ok (.sipush 153, 3) := by decide +kernel
theorem dX9_loadKind_76 : decode cX9_loadKind 76 = .ok (.if_icmp .eq 8, 3) := by decide +kernel
theorem dX9_loadKind_79 : decode cX9_loadKind 79 = .ok (.bipush 7, 2) := by decide +kernel
theorem dX9_loadKind_81 : decode cX9_loadKind 81 = .ok (.goto 4, 3) := by decide +kernel
theorem dX9_loadKind_84 : decode cX9_loadKind 84 = .ok (.iconst 0, 1) := by decide +kernel
theorem dX9_loadKind_85 : decode cX9_loadKind 85 = .ok (.ireturn, 1) := by decide +kernel
theorem dX9_putKind_0 : decode cX9_putKind 0 = .ok (.aload_n 0, 1) := by decide +kernel
theorem dX9_putKind_1 : decode cX9_putKind 1 = .ok (.getfield 13, 3) := by decide +kernel
theorem dX9_putKind_4 : decode cX9_putKind 4 = .ok (.iload_n 1, 1) := by decide +kernel
theorem dX9_putKind_5 : decode cX9_putKind 5 = .ok (.iaload, 1) := by decide +kernel
theorem dX9_putKind_6 : decode cX9_putKind 6 = .ok (.bipush 11, 2) := by decide +kernel
theorem dX9_putKind_8 : decode cX9_putKind 8 = .ok (.if_icmp .ge 14, 3) := by decide +kernel
theorem dX9_putKind_11 : decode cX9_putKind 11 = .ok (.aload_n 0, 1) := by decide +kernel
theorem dX9_putKind_12 : decode cX9_putKind 12 = .ok (.getfield 16, 3) := by decide +kernel
theorem dX9_putKind_15 : decode cX9_putKind 15 = .ok (.iload_n 1, 1) := by decide +kernel
theorem dX9_putKind_16 : decode cX9_putKind 16 = .ok (.iaload, 1) := by decide +kernel
theorem dX9_putKind_17 : decode cX9_putKind 17 = .ok (.bipush 11, 2) := by decide +kernel
theorem dX9_putKind_19 : decode cX9_putKind 19 = .ok (.if_icmp .lt 5, 3) := by decide +kernel
theorem dX9_putKind_22 : decode cX9_putKind 22 = .ok (.iconst 0, 1) := by decide +kernel
theorem dX9_putKind_23 : decode cX9_putKind 23 = .ok (.ireturn, 1) := by decide +kernel
theorem dX9_putKind_24 : decode cX9_putKind 24 = .ok (.aload_n 0, 1) := by decide +kernel
theorem dX9_putKind_25 : decode cX9_putKind 25 = .ok (.getfield 7, 3) := by decide +kernel
theorem dX9_putKind_28 : decode cX9_putKind 28 = .ok (.iload_n 1, 1) := by decide +kernel
theorem dX9_putKind_29 : decode cX9_putKind 29 = .ok (.iaload, 1) := by decide +kernel
theorem dX9_putKind_30 : decode cX9_putKind 30 = .ok (.bipush (-25), 2) := by decide +kernel
theorem dX9_putKind_32 : decode cX9_putKind 32 = .ok (.iand, 1) := by decide +kernel
theorem dX9_putKind_33 : decode cX9_putKind 33 = .ok (.bipush 99, 2) := by decide +kernel
theorem dX9_putKind_35 : decode cX9_putKind 35 = .ok (.if_icmp .ne 19, 3) := by decide +kernel
theorem dX9_putKind_38 : decode cX9_putKind 38 = .ok (.aload_n 0, 1) := by decide +kernel
theorem dX9_putKind_39 : decode cX9_putKind 39 = .ok (.getfield 22, 3) := by decide +kernel
theorem dX9_putKind_42 : decode cX9_putKind 42 = .ok (.iload_n 1, 1) := by decide +kernel
theorem dX9_putKind_43 : decode cX9_putKind 43 = .ok (.iaload, 1) := by decide +kernel
theorem dX9_putKind_44 : decode cX9_putKind 44 = .ok (.ifCond .ne 8, 3) := by decide +kernel
theorem dX9_putKind_47 : decode cX9_putKind 47 = .ok (.bipush 9, 2) := by decide +kernel
theorem dX9_putKind_49 : decode cX9_putKind 49 = .ok (.goto 4, 3) := by decide +kernel
theorem dX9_putKind_52 : decode cX9_putKind 52 = .ok (.iconst 0, 1) := by decide +kernel
theorem dX9_putKind_53 : decode cX9_putKind 53 = .ok (.ireturn, 1) := by decide +kernel
theorem dX9_putKind_54 : decode cX9_putKind 54 = .ok (.aload_n 0, 1) := by decide +kernel
theorem dX9_putKind_55 : decode cX9_putKind 55 = .ok (.getfield 7, 3) := by decide +kernel
theorem dX9_putKind_58 : decode cX9_putKind 58 = .ok (.iload_n 1, 1) := by decide +kernel
theorem dX9_putKind_59 : decode cX9_putKind 59 = .ok (.iaload, 1) := by decide +kernel
theorem dX9_putKind_60 : decode cX9_putKind 60 = .ok (.sipush 195, 3) := by decide +kernel
theorem dX9_putKind_63 : decode cX9_putKind 63 = .ok (.if_icmp .eq 17, 3) := by decide +kernel
theorem dX9_putKind_66 : decode cX9_putKind 66 = .ok (.aload_n 0, 1) := by decide +kernel
theorem dX9_putKind_67 : decode cX9_putKind 67 = .ok (.getfield 7, 3) := by decide +kernel
theorem dX9_putKind_70 : decode cX9_putKind 70 = .ok (.iload_n 1, 1) := by decide +kernel
theorem dX9_putKind_71 : decode cX9_putKind 71 = .ok (.iaload, 1) := by decide +kernel
theorem dX9_putKind_72 : decode cX9_putKind 72 = .ok (.sipush 219, 3) := by decide +kernel
theorem dX9_putKind_75 : decode cX9_putKind 75 = .ok (.if_icmp .eq 5, 3) := by decide +kernel
theorem dX9_putKind_78 : decode cX9_putKind 78 = .ok (.iconst 0, 1) := by decide +kernel
theorem dX9_putKind_79 : decode cX9_putKind 79 = .ok (.ireturn, 1) := by decide +kernel
theorem dX9_putKind_80 : decode cX9_putKind 80 = .ok (.aload_n 0, 1) := by decide +kernel
theorem dX9_putKind_81 : decode cX9_putKind 81 = .ok (.getfield 22, 3) := by decide +kernel
theorem dX9_putKind_84 : decode cX9_putKind 84 = .ok (.iload_n 1, 1) := by decide +kernel
theorem dX9_putKind_85 : decode cX9_putKind 85 = .ok (.iaload, 1) := by decide +kernel
theorem dX9_putKind_86 : decode cX9_putKind 86 = .ok (.istore_n 2, 1) := by decide +kernel
theorem dX9_putKind_87 : decode cX9_putKind 87 = .ok (.iload_n 2, 1) := by decide +kernel
theorem dX9_putKind_88 : decode cX9_putKind 88 = .ok (.sipush 241, 3) := by decide +kernel
theorem dX9_putKind_91 : decode cX9_putKind 91 = .ok (.if_icmp .eq 26, 3) := by decide +kernel
theorem dX9_putKind_94 : decode cX9_putKind 94 = .ok (.iload_n 2, 1) := by decide +kernel
theorem dX9_putKind_95 : decode cX9_putKind 95 = .ok (.ifCond .eq 22, 3) := by decide +kernel
theorem dX9_putKind_98 : decode cX9_putKind 98 = .ok (.iload_n 2, 1) := by decide +kernel
theorem dX9_putKind_99 : decode cX9_putKind 99 = .ok (.bipush 64, 2) := by decide +kernel
theorem dX9_putKind_101 : decode cX9_putKind 101 = .ok (.if_icmp .eq 16, 3) := by decide +kernel
theorem dX9_putKind_104 : decode cX9_putKind 104 = .ok (.iload_n 2, 1) := by decide +kernel
theorem dX9_putKind_105 : decode cX9_putKind 105 = .ok (.bipush 80, 2) := by decide +kernel
theorem dX9_putKind_107 : decode cX9_putKind 107 = .ok (.if_icmp .eq 10, 3) := by decide +kernel
theorem dX9_putKind_110 : decode cX9_putKind 110 = .ok (.iload_n 2, 1) := by decide +kernel
theorem dX9_putKind_111 : decode cX9_putKind 111 = .ok (.sipush 160, 3) := by decide +kernel
theorem dX9_putKind_114 : decode cX9_putKind 114 = .ok (.if_icmp .ne 6, 3) := by decide +kernel
theorem dX9_putKind_117 : decode cX9_putKind 117 = .ok (.bipush 10, 2) := by decide +kernel
theorem dX9_putKind_119 : decode cX9_putKind 119 = .ok (.ireturn, 1) := by decide +kernel
theorem dX9_putKind_120 : decode cX9_putKind 120 = .ok (.iload_n 2, 1) := by decide +kernel
theorem dX9_putKind_121 : decode cX9_putKind 121 = .ok (.iconst 1, 1) := by decide +kernel
theorem dX9_putKind_122 : decode cX9_putKind 122 = .ok (.if_icmp .eq 29, 3) := by decide +kernel
theorem dX9_putKind_125 : decode cX9_putKind 125 = .ok (.iload_n 2, 1) := by decide +kernel
theorem dX9_putKind_126 : decode cX9_putKind 126 = .ok (.bipush 65, 2) := by decide +kernel
theorem dX9_putKind_128 : decode cX9_putKind 128 = .ok (.if_icmp .eq 23, 3) := by decide +kernel
theorem dX9_putKind_131 : decode cX9_putKind 131 = .ok (.iload_n 2, 1) := by decide +kernel
theorem dX9_putKind_132 : decode cX9_putKind 132 = .ok (.bipush 81, 2) := by decide +kernel
theorem dX9_putKind_134 : decode cX9_putKind 134 = .ok (.if_icmp .eq 17, 3) := by decide +kernel
theorem dX9_putKind_137 : decode cX9_putKind 137 = .ok (.iload_n 2, 1) := by decide +kernel
theorem dX9_putKind_138 : decode cX9_putKind 138 = .ok (.sipush 161, 3) := by decide +kernel
theorem dX9_putKind_141 : decode cX9_putKind 141 = .ok (.if_icmp .eq 10, 3) := by decide +kernel
theorem dX9_putKind_144 : decode cX9_putKind 144 = .ok (.iload_n 2, 1) := by decide +kernel
theorem dX9_putKind_145 : decode cX9_putKind 145 = .ok (.sipush 225, 3) := by decide +kernel
theorem dX9_putKind_148 : decode cX9_putKind 148 = .ok (.if_icmp .ne 19, 3) := by decide +kernel
theorem dX9_putKind_151 : decode cX9_putKind 151 = .ok (.aload_n 0, 1) := by decide +kernel
theorem dX9_putKind_152 : decode cX9_putKind 152 = .ok (.getfield 16, 3) := by decide +kernel
theorem dX9_putKind_155 : decode cX9_putKind 155 = .ok (.iload_n 1, 1) := by decide +kernel
theorem dX9_putKind_156 : decode cX9_putKind 156 = .ok (.iaload, 1) := by decide +kernel
theorem dX9_putKind_157 : decode cX9_putKind 157 = .ok (.bipush 10, 2) := by decide +kernel
theorem dX9_putKind_159 : decode cX9_putKind 159 = .ok (.if_icmp .ge 8, 3) := by decide +kernel
theorem dX9_putKind_162 : decode cX9_putKind 162 = .ok (.bipush 10, 2) := by decide +kernel
theorem dX9_putKind_164 : decode cX9_putKind 164 = .ok (.goto 4, 3) := by decide +kernel
theorem dX9_putKind_167 : decode cX9_putKind 167 = .ok (.iconst 0, 1) := by decide +kernel
theorem dX9_putKind_168 : decode cX9_putKind 168 = .ok (.ireturn, 1) := by decide +kernel
theorem dX9_kindOf_0 : decode cX9_kindOf 0 = .ok (.aload_n 0, 1) := by decide +kernel
theorem dX9_kindOf_1 : decode cX9_kindOf 1 = .ok (.getfield 7, 3) := by decide +kernel
theorem dX9_kindOf_4 : decode cX9_kindOf 4 = .ok (.iload_n 1, 1) := by decide +kernel
theorem dX9_kindOf_5 : decode cX9_kindOf 5 = .ok (.iaload, 1) := by decide +kernel
theorem dX9_kindOf_6 : decode cX9_kindOf 6 = .ok (.bipush 7, 2) := by decide +kernel
theorem dX9_kindOf_8 : decode cX9_kindOf 8 = .ok (.iand, 1) := by decide +kernel
theorem dX9_kindOf_9 : decode cX9_kindOf 9 = .ok (.istore_n 2, 1) := by decide +kernel
theorem dX9_kindOf_10 : decode cX9_kindOf 10 = .ok (.iload_n 2, 1) := by decide +kernel
theorem dX9_kindOf_11 : decode cX9_kindOf 11 = .ok (.tableswitch 135 1 7 #[82, 88, 129, 41, 66, 66, 41], 41) := by decide +kernel
theorem dX9_kindOf_52 : decode cX9_kindOf 52 = .ok (.aload_n 0, 1) := by decide +kernel
theorem dX9_kindOf_53 : decode cX9_kindOf 53 = .ok (.iload_n 1, 1) := by decide +kernel
theorem dX9_kindOf_54 : decode cX9_kindOf 54 = .ok (.iload_n 2, 1) := by decide +kernel
theorem dX9_kindOf_55 : decode cX9_kindOf 55 = .ok (.bipush 7, 2) := by decide +kernel
theorem dX9_kindOf_57 : decode cX9_kindOf 57 = .ok (.if_icmp .ne 7, 3) := by decide +kernel
theorem dX9_kindOf_60 : decode cX9_kindOf 60 = .ok (.iconst 1, 1) := by decide +kernel
theorem dX9_kindOf_61 : decode cX9_kindOf 61 = .ok (.goto 4, 3) := by decide +kernel
theorem dX9_kindOf_64 : decode cX9_kindOf 64 = .ok (.iconst 0, 1) := by decide +kernel
theorem dX9_kindOf_65 : decode cX9_kindOf 65 = .ok (.invokevirtual 154, 3) := by decide +kernel
theorem dX9_kindOf_68 : decode cX9_kindOf 68 = .ok (.ifCond .eq 7, 3) := by decide +kernel
theorem dX9_kindOf_71 : decode cX9_kindOf 71 = .ok (.iconst 1, 1) := by decide +kernel
theorem dX9_kindOf_72 : decode cX9_kindOf 72 = .ok (.goto 4, 3) := by decide +kernel
theorem dX9_kindOf_75 : decode cX9_kindOf 75 = .ok (.iconst 0, 1) := by decide +kernel
theorem dX9_kindOf_76 : decode cX9_kindOf 76 = .ok (.ireturn, 1) := by decide +kernel
theorem dX9_kindOf_77 : decode cX9_kindOf 77 = .ok (.aload_n 0, 1) := by decide +kernel
theorem dX9_kindOf_78 : decode cX9_kindOf 78 = .ok (.iload_n 1, 1) := by decide +kernel
theorem dX9_kindOf_79 : decode cX9_kindOf 79 = .ok (.iload_n 2, 1) := by decide +kernel
theorem dX9_kindOf_80 : decode cX9_kindOf 80 = .ok (.iconst 5, 1) := by decide +kernel
theorem dX9_kindOf_81 : decode cX9_kindOf 81 = .ok (.if_icmp .ne 7, 3) := by decide +kernel
theorem dX9_kindOf_84 : decode cX9_kindOf 84 = .ok (.iconst 1, 1) := by decide +kernel
theorem dX9_kindOf_85 : decode cX9_kindOf 85 = .ok (.goto 4, 3) := by decide +kernel
theorem dX9_kindOf_88 : decode cX9_kindOf 88 = .ok (.iconst 0, 1) := by decide +kernel
theorem dX9_kindOf_89 : decode cX9_kindOf 89 = .ok (.invokevirtual 158, 3) := by decide +kernel
theorem dX9_kindOf_92 : decode cX9_kindOf 92 = .ok (.ireturn, 1) := by decide +kernel
theorem dX9_kindOf_93 : decode cX9_kindOf 93 = .ok (.aload_n 0, 1) := by decide +kernel
theorem dX9_kindOf_94 : decode cX9_kindOf 94 = .ok (.iload_n 1, 1) := by decide +kernel
theorem dX9_kindOf_95 : decode cX9_kindOf 95 = .ok (.invokevirtual 162, 3) := by decide +kernel
theorem dX9_kindOf_98 : decode cX9_kindOf 98 = .ok (.ireturn, 1) := by decide +kernel
theorem dX9_kindOf_99 : decode cX9_kindOf 99 = .ok (.aload_n 0, 1) := by decide +kernel
theorem dX9_kindOf_100 : decode cX9_kindOf 100 = .ok (.getfield 7, 3) := by decide +kernel
theorem dX9_kindOf_103 : decode cX9_kindOf 103 = .ok (.iload_n 1, 1) := by decide +kernel
theorem dX9_kindOf_104 : decode cX9_kindOf 104 = .ok (.iaload, 1) := by decide +kernel
theorem dX9_kindOf_105 : decode cX9_kindOf 105 = .ok (.bipush (-25), 2) := by decide +kernel
theorem dX9_kindOf_107 : decode cX9_kindOf 107 = .ok (.iand, 1) := by decide +kernel
theorem dX9_kindOf_108 : decode cX9_kindOf 108 = .ok (.bipush 98, 2) := by decide +kernel
theorem dX9_kindOf_110 : decode cX9_kindOf 110 = .ok (.if_icmp .ne 28, 3) := by decide +kernel
theorem dX9_kindOf_113 : decode cX9_kindOf 113 = .ok (.aload_n 0, 1) := by decide +kernel
theorem dX9_kindOf_114 : decode cX9_kindOf 114 = .ok (.getfield 16, 3) := by decide +kernel
theorem dX9_kindOf_117 : decode cX9_kindOf 117 = .ok (.iload_n 1, 1) := by decide +kernel
theorem dX9_kindOf_118 : decode cX9_kindOf 118 = .ok (.iaload, 1) := by decide +kernel
theorem dX9_kindOf_119 : decode cX9_kindOf 119 = .ok (.ifCond .ne 19, 3) := by decide +kernel
theorem dX9_kindOf_122 : decode cX9_kindOf 122 = .ok (.aload_n 0, 1) := by decide +kernel
theorem dX9_kindOf_123 : decode cX9_kindOf 123 = .ok (.getfield 13, 3) := by decide +kernel
theorem dX9_kindOf_126 : decode cX9_kindOf 126 = .ok (.iload_n 1, 1) := by decide +kernel
theorem dX9_kindOf_127 : decode cX9_kindOf 127 = .ok (.iaload, 1) := by decide +kernel
theorem dX9_kindOf_128 : decode cX9_kindOf 128 = .ok (.bipush 11, 2) := by decide +kernel
theorem dX9_kindOf_130 : decode cX9_kindOf 130 = .ok (.if_icmp .ge 8, 3) := by decide +kernel
theorem dX9_kindOf_133 : decode cX9_kindOf 133 = .ok (.bipush 8, 2) := by decide +kernel
theorem dX9_kindOf_135 : decode cX9_kindOf 135 = .ok (.goto 4, 3) := by decide +kernel
theorem dX9_kindOf_138 : decode cX9_kindOf 138 = .ok (.iconst 0, 1) := by decide +kernel
theorem dX9_kindOf_139 : decode cX9_kindOf 139 = .ok (.ireturn, 1) := by decide +kernel
theorem dX9_kindOf_140 : decode cX9_kindOf 140 = .ok (.aload_n 0, 1) := by decide +kernel
theorem dX9_kindOf_141 : decode cX9_kindOf 141 = .ok (.iload_n 1, 1) := by decide +kernel
theorem dX9_kindOf_142 : decode cX9_kindOf 142 = .ok (.invokevirtual 166, 3) := by decide +kernel
theorem dX9_kindOf_145 : decode cX9_kindOf 145 = .ok (.ireturn, 1) := by decide +kernel
theorem dX9_kindOf_146 : decode cX9_kindOf 146 = .ok (.aload_n 0, 1) := by decide +kernel
theorem dX9_kindOf_147 : decode cX9_kindOf 147 = .ok (.getfield 7, 3) := by decide +kernel
theorem dX9_kindOf_150 : decode cX9_kindOf 150 = .ok (.iload_n 1, 1) := by decide +kernel
theorem dX9_kindOf_151 : decode cX9_kindOf 151 = .ok (.iaload, 1) := by decide +kernel
theorem dX9_kindOf_152 : decode cX9_kindOf 152 = .ok (.bipush 24, 2) := by decide +kernel
theorem dX9_kindOf_154 : decode cX9_kindOf 154 = .ok (.if_icmp .ne 38, 3) := by decide +kernel
theorem dX9_kindOf_157 : decode cX9_kindOf 157 = .ok (.aload_n 0, 1) := by decide +kernel
theorem dX9_kindOf_158 : decode cX9_kindOf 158 = .ok (.getfield 16, 3) := by decide +kernel
theorem dX9_kindOf_161 : decode cX9_kindOf 161 = .ok (.iload_n 1, 1) := by decide +kernel
theorem dX9_kindOf_162 : decode cX9_kindOf 162 = .ok (.iaload, 1) := by decide +kernel
theorem dX9_kindOf_163 : decode cX9_kindOf 163 = .ok (.iconst 2, 1) := by decide +kernel
theorem dX9_kindOf_164 : decode cX9_kindOf 164 = .ok (.if_icmp .ge 28, 3) := by decide +kernel
theorem dX9_kindOf_167 : decode cX9_kindOf 167 = .ok (.aload_n 0, 1) := by decide +kernel
theorem dX9_kindOf_168 : decode cX9_kindOf 168 = .ok (.getfield 13, 3) := by decide +kernel
theorem dX9_kindOf_171 : decode cX9_kindOf 171 = .ok (.iload_n 1, 1) := by decide +kernel
theorem dX9_kindOf_172 : decode cX9_kindOf 172 = .ok (.iaload, 1) := by decide +kernel
theorem dX9_kindOf_173 : decode cX9_kindOf 173 = .ok (.bipush 10, 2) := by decide +kernel
theorem dX9_kindOf_175 : decode cX9_kindOf 175 = .ok (.if_icmp .ge 17, 3) := by decide +kernel
theorem dX9_kindOf_178 : decode cX9_kindOf 178 = .ok (.aload_n 0, 1) := by decide +kernel
theorem dX9_kindOf_179 : decode cX9_kindOf 179 = .ok (.getfield 19, 3) := by decide +kernel
theorem dX9_kindOf_182 : decode cX9_kindOf 182 = .ok (.iload_n 1, 1) := by decide +kernel
theorem dX9_kindOf_183 : decode cX9_kindOf 183 = .ok (.iaload, 1) := by decide +kernel
theorem dX9_kindOf_184 : decode cX9_kindOf 184 = .ok (.ifCond .ne 8, 3) := by decide +kernel
theorem dX9_kindOf_187 : decode cX9_kindOf 187 = .ok (.bipush 11, 2) := by decide +kernel
theorem dX9_kindOf_189 : decode cX9_kindOf 189 = .ok (.goto 4, 3) := by decide +kernel
theorem dX9_kindOf_192 : decode cX9_kindOf 192 = .ok (.iconst 0, 1) := by decide +kernel
theorem dX9_kindOf_193 : decode cX9_kindOf 193 = .ok (.ireturn, 1) := by decide +kernel
theorem dX9_widthOf_0 : decode cX9_widthOf 0 = .ok (.aload_n 0, 1) := by decide +kernel
theorem dX9_widthOf_1 : decode cX9_widthOf 1 = .ok (.getfield 7, 3) := by decide +kernel
theorem dX9_widthOf_4 : decode cX9_widthOf 4 = .ok (.iload_n 1, 1) := by decide +kernel
theorem dX9_widthOf_5 : decode cX9_widthOf 5 = .ok (.iaload, 1) := by decide +kernel
theorem dX9_widthOf_6 : decode cX9_widthOf 6 = .ok (.bipush 24, 2) := by decide +kernel
theorem dX9_widthOf_8 : decode cX9_widthOf 8 = .ok (.iand, 1) := by decide +kernel
theorem dX9_widthOf_9 : decode cX9_widthOf 9 = .ok (.istore_n 2, 1) := by decide +kernel
theorem dX9_widthOf_10 : decode cX9_widthOf 10 = .ok (.iload_n 2, 1) := by decide +kernel
theorem dX9_widthOf_11 : decode cX9_widthOf 11 = .ok (.ifCond .ne 7, 3) := by decide +kernel
theorem dX9_widthOf_14 : decode cX9_widthOf 14 = .ok (.iconst 4, 1) := by decide +kernel
theorem dX9_widthOf_15 : decode cX9_widthOf 15 = .ok (.goto 25, 3) := by decide +kernel
theorem dX9_widthOf_18 : decode cX9_widthOf 18 = .ok (.iload_n 2, 1) := by decide +kernel
theorem dX9_widthOf_19 : decode cX9_widthOf 19 = .ok (.bipush 8, 2) := by decide +kernel
theorem dX9_widthOf_21 : decode cX9_widthOf 21 = .ok (.if_icmp .ne 7, 3) := by decide +kernel
theorem dX9_widthOf_24 : decode cX9_widthOf 24 = .ok (.iconst 2, 1) := by decide +kernel
theorem dX9_widthOf_25 : decode cX9_widthOf 25 = .ok (.goto 15, 3) := by decide +kernel
theorem dX9_widthOf_28 : decode cX9_widthOf 28 = .ok (.iload_n 2, 1) := by decide +kernel
theorem dX9_widthOf_29 : decode cX9_widthOf 29 = .ok (.bipush 16, 2) := by decide +kernel
theorem dX9_widthOf_31 : decode cX9_widthOf 31 = .ok (.if_icmp .ne 7, 3) := by decide +kernel
theorem dX9_widthOf_34 : decode cX9_widthOf 34 = .ok (.iconst 1, 1) := by decide +kernel
theorem dX9_widthOf_35 : decode cX9_widthOf 35 = .ok (.goto 5, 3) := by decide +kernel
theorem dX9_widthOf_38 : decode cX9_widthOf 38 = .ok (.bipush 8, 2) := by decide +kernel
theorem dX9_widthOf_40 : decode cX9_widthOf 40 = .ok (.ireturn, 1) := by decide +kernel
theorem dX9_isSecond_0 : decode cX9_isSecond 0 = .ok (.aload_n 0, 1) := by decide +kernel
theorem dX9_isSecond_1 : decode cX9_isSecond 1 = .ok (.getfield 7, 3) := by decide +kernel
theorem dX9_isSecond_4 : decode cX9_isSecond 4 = .ok (.iload_n 1, 1) := by decide +kernel
theorem dX9_isSecond_5 : decode cX9_isSecond 5 = .ok (.iaload, 1) := by decide +kernel
theorem dX9_isSecond_6 : decode cX9_isSecond 6 = .ok (.ifCond .ne 54, 3) := by decide +kernel
theorem dX9_isSecond_9 : decode cX9_isSecond 9 = .ok (.aload_n 0, 1) := by decide +kernel
theorem dX9_isSecond_10 : decode cX9_isSecond 10 = .ok (.getfield 13, 3) := by decide +kernel
theorem dX9_isSecond_13 : decode cX9_isSecond 13 = .ok (.iload_n 1, 1) := by decide +kernel
theorem dX9_isSecond_14 : decode cX9_isSecond 14 = .ok (.iaload, 1) := by decide +kernel
theorem dX9_isSecond_15 : decode cX9_isSecond 15 = .ok (.ifCond .ne 45, 3) := by decide +kernel
theorem dX9_isSecond_18 : decode cX9_isSecond 18 = .ok (.aload_n 0, 1) := by decide +kernel
theorem dX9_isSecond_19 : decode cX9_isSecond 19 = .ok (.getfield 16, 3) := by decide +kernel
theorem dX9_isSecond_22 : decode cX9_isSecond 22 = .ok (.iload_n 1, 1) := by decide +kernel
theorem dX9_isSecond_23 : decode cX9_isSecond 23 = .ok (.iaload, 1) := by decide +kernel
theorem dX9_isSecond_24 : decode cX9_isSecond 24 = .ok (.ifCond .ne 36, 3) := by decide +kernel
theorem dX9_isSecond_27 : decode cX9_isSecond 27 = .ok (.aload_n 0, 1) := by decide +kernel
theorem dX9_isSecond_28 : decode cX9_isSecond 28 = .ok (.getfield 19, 3) := by decide +kernel
theorem dX9_isSecond_31 : decode cX9_isSecond 31 = .ok (.iload_n 1, 1) := by decide +kernel
theorem dX9_isSecond_32 : decode cX9_isSecond 32 = .ok (.iaload, 1) := by decide +kernel
theorem dX9_isSecond_33 : decode cX9_isSecond 33 = .ok (.ifCond .ne 27, 3) := by decide +kernel
theorem dX9_isSecond_36 : decode cX9_isSecond 36 = .ok (.aload_n 0, 1) := by decide +kernel
theorem dX9_isSecond_37 : decode cX9_isSecond 37 = .ok (.getfield 16, 3) := by decide +kernel
theorem dX9_isSecond_40 : decode cX9_isSecond 40 = .ok (.iload_n 1, 1) := by decide +kernel
theorem dX9_isSecond_41 : decode cX9_isSecond 41 = .ok (.iconst 1, 1) := by decide +kernel
theorem dX9_isSecond_42 : decode cX9_isSecond 42 = .ok (.isub, 1) := by decide +kernel
theorem dX9_isSecond_43 : decode cX9_isSecond 43 = .ok (.iaload, 1) := by decide +kernel
theorem dX9_isSecond_44 : decode cX9_isSecond 44 = .ok (.ifCond .eq 12, 3) := by decide +kernel
theorem dX9_isSecond_47 : decode cX9_isSecond 47 = .ok (.aload_n 0, 1) := by decide +kernel
theorem dX9_isSecond_48 : decode cX9_isSecond 48 = .ok (.getfield 22, 3) := by decide +kernel
theorem dX9_isSecond_51 : decode cX9_isSecond 51 = .ok (.iload_n 1, 1) := by decide +kernel
theorem dX9_isSecond_52 : decode cX9_isSecond 52 = .ok (.iaload, 1) := by decide +kernel
theorem dX9_isSecond_53 : decode cX9_isSecond 53 = .ok (.ifCond .ne 7, 3) := by decide +kernel
theorem dX9_isSecond_56 : decode cX9_isSecond 56 = .ok (.iconst 1, 1) := by decide +kernel
theorem dX9_isSecond_57 : decode cX9_isSecond 57 = .ok (.goto 4, 3) := by decide +kernel
theorem dX9_isSecond_60 : decode cX9_isSecond 60 = .ok (.iconst 0, 1) := by decide +kernel
theorem dX9_isSecond_61 : decode cX9_isSecond 61 = .ok (.ireturn, 1) := by decide +kernel
theorem dX9_over_0 : decode cX9_over 0 = .ok (.lload_n 2, 1) := by decide +kernel
theorem dX9_over_1 : decode cX9_over 1 = .ok (.lconst 0, 1) := by decide +kernel
theorem dX9_over_2 : decode cX9_over 2 = .ok (.lcmp, 1) := by decide +kernel
theorem dX9_over_3 : decode cX9_over 3 = .ok (.ifCond .ge 17, 3) := by decide +kernel
theorem dX9_over_6 : decode cX9_over 6 = .ok (.lload_n 0, 1) := by decide +kernel
theorem dX9_over_7 : decode cX9_over 7 = .ok (.lload_n 2, 1) := by decide +kernel
theorem dX9_over_8 : decode cX9_over 8 = .ok (.invokestatic 175, 3) := by decide +kernel
theorem dX9_over_11 : decode cX9_over 11 = .ok (.ifCond .eq 7, 3) := by decide +kernel
theorem dX9_over_14 : decode cX9_over 14 = .ok (.lconst 0, 1) := by decide +kernel
theorem dX9_over_15 : decode cX9_over 15 = .ok (.goto 4, 3) := by decide +kernel
theorem dX9_over_18 : decode cX9_over 18 = .ok (.lconst 1, 1) := by decide +kernel
theorem dX9_over_19 : decode cX9_over 19 = .ok (.lreturn, 1) := by decide +kernel
theorem dX9_over_20 : decode cX9_over 20 = .ok (.lload_n 0, 1) := by decide +kernel
theorem dX9_over_21 : decode cX9_over 21 = .ok (.iconst 1, 1) := by decide +kernel
theorem dX9_over_22 : decode cX9_over 22 = .ok (.lushr, 1) := by decide +kernel
theorem dX9_over_23 : decode cX9_over 23 = .ok (.lload_n 2, 1) := by decide +kernel
theorem dX9_over_24 : decode cX9_over 24 = .ok (.ldiv, 1) := by decide +kernel
theorem dX9_over_25 : decode cX9_over 25 = .ok (.iconst 1, 1) := by decide +kernel
theorem dX9_over_26 : decode cX9_over 26 = .ok (.lshl, 1) := by decide +kernel
theorem dX9_over_27 : decode cX9_over 27 = .ok (.lstore 4, 2) := by decide +kernel
theorem dX9_over_29 : decode cX9_over 29 = .ok (.lload_n 0, 1) := by decide +kernel
theorem dX9_over_30 : decode cX9_over 30 = .ok (.lload 4, 2) := by decide +kernel
theorem dX9_over_32 : decode cX9_over 32 = .ok (.lload_n 2, 1) := by decide +kernel
theorem dX9_over_33 : decode cX9_over 33 = .ok (.lmul, 1) := by decide +kernel
theorem dX9_over_34 : decode cX9_over 34 = .ok (.lsub, 1) := by decide +kernel
theorem dX9_over_35 : decode cX9_over 35 = .ok (.lload_n 2, 1) := by decide +kernel
theorem dX9_over_36 : decode cX9_over 36 = .ok (.invokestatic 175, 3) := by decide +kernel
theorem dX9_over_39 : decode cX9_over 39 = .ok (.ifCond .eq 8, 3) := by decide +kernel
theorem dX9_over_42 : decode cX9_over 42 = .ok (.lload 4, 2) := by decide +kernel
theorem dX9_over_44 : decode cX9_over 44 = .ok (.goto 7, 3) := by decide +kernel
theorem dX9_over_47 : decode cX9_over 47 = .ok (.lload 4, 2) := by decide +kernel
theorem dX9_over_49 : decode cX9_over 49 = .ok (.lconst 1, 1) := by decide +kernel
theorem dX9_over_50 : decode cX9_over 50 = .ok (.ladd, 1) := by decide +kernel
theorem dX9_over_51 : decode cX9_over 51 = .ok (.lreturn, 1) := by decide +kernel
theorem dX9_signed_0 : decode cX9_signed 0 = .ok (.lload_n 0, 1) := by decide +kernel
theorem dX9_signed_1 : decode cX9_signed 1 = .ok (.bipush 64, 2) := by decide +kernel
theorem dX9_signed_3 : decode cX9_signed 3 = .ok (.iload_n 2, 1) := by decide +kernel
theorem dX9_signed_4 : decode cX9_signed 4 = .ok (.isub, 1) := by decide +kernel
theorem dX9_signed_5 : decode cX9_signed 5 = .ok (.lshl, 1) := by decide +kernel
theorem dX9_signed_6 : decode cX9_signed 6 = .ok (.bipush 64, 2) := by decide +kernel
theorem dX9_signed_8 : decode cX9_signed 8 = .ok (.iload_n 2, 1) := by decide +kernel
theorem dX9_signed_9 : decode cX9_signed 9 = .ok (.isub, 1) := by decide +kernel
theorem dX9_signed_10 : decode cX9_signed 10 = .ok (.lshr, 1) := by decide +kernel
theorem dX9_signed_11 : decode cX9_signed 11 = .ok (.lreturn, 1) := by decide +kernel
theorem dX9_turned_0 : decode cX9_turned 0 = .ok (.lconst 0, 1) := by decide +kernel
theorem dX9_turned_1 : decode cX9_turned 1 = .ok (.lstore_n 3, 1) := by decide +kernel
theorem dX9_turned_2 : decode cX9_turned 2 = .ok (.iconst 0, 1) := by decide +kernel
theorem dX9_turned_3 : decode cX9_turned 3 = .ok (.istore 5, 2) := by decide +kernel
theorem dX9_turned_5 : decode cX9_turned 5 = .ok (.iload 5, 2) := by decide +kernel
theorem dX9_turned_7 : decode cX9_turned 7 = .ok (.iload_n 2, 1) := by decide +kernel
theorem dX9_turned_8 : decode cX9_turned 8 = .ok (.if_icmp .ge 23, 3) := by decide +kernel
theorem dX9_turned_11 : decode cX9_turned 11 = .ok (.lload_n 3, 1) := by decide +kernel
theorem dX9_turned_12 : decode cX9_turned 12 = .ok (.bipush 8, 2) := by decide +kernel
theorem dX9_turned_14 : decode cX9_turned 14 = .ok (.lshl, 1) := by decide +kernel
theorem dX9_turned_15 : decode cX9_turned 15 = .ok (.lload_n 0, 1) := by decide +kernel
theorem dX9_turned_16 : decode cX9_turned 16 = .ok (.iload 5, 2) := by decide +kernel
theorem dX9_turned_18 : decode cX9_turned 18 = .ok (.lshr, 1) := by decide +kernel
theorem dX9_turned_19 : decode cX9_turned 19 = .ok (.ldc2_w 130, 3) := by decide +kernel
theorem dX9_turned_22 : decode cX9_turned 22 = .ok (.land, 1) := by decide +kernel
theorem dX9_turned_23 : decode cX9_turned 23 = .ok (.lor, 1) := by decide +kernel
theorem dX9_turned_24 : decode cX9_turned 24 = .ok (.lstore_n 3, 1) := by decide +kernel
theorem dX9_turned_25 : decode cX9_turned 25 = .ok (.iinc 5 8, 3) := by decide +kernel
theorem dX9_turned_28 : decode cX9_turned 28 = .ok (.goto (-23), 3) := by decide +kernel
theorem dX9_turned_31 : decode cX9_turned 31 = .ok (.lload_n 3, 1) := by decide +kernel
theorem dX9_turned_32 : decode cX9_turned 32 = .ok (.lreturn, 1) := by decide +kernel
-- JudgedCodeModel.isHelper
def f_X9_isHelper_23 : Option Int32 := some (1 : Int32)
def f_X9_isHelper (x0 : Int32) : Option Int32 := pq (f_X9_in x0.toInt64 (1 : Int64) (3 : Int64)) fun r7 => if r7 = 0 then (if x0 = (5 : Int32) then (f_X9_isHelper_23) else (if x0 = (6 : Int32) then (f_X9_isHelper_23) else (some (0 : Int32)))) else (f_X9_isHelper_23)
-- JudgedCodeModel.jumpKind
def f_X9_jumpKind_220 (S : sh) (D : dt) : Option Int32 := some (2 : Int32)
def f_X9_jumpKind_106 (S : sh) (D : dt) : Option Int32 := some (3 : Int32)
def f_X9_jumpKind_77 (S : sh) (D : dt) (o0 : Nat) (x1 : Int32) (x2 : Int32) (x3 : Int32) : Option Int32 := if x3 = 0 then (if x2 = 0 then (rq (gR D o0 4) fun o115 => ix x1 (sA S o115) <| if (gI D o115 x1.toNatClampNeg) = 0 then (f_X9_jumpKind_106 S D) else (some (0 : Int32))) else (rq (gR D o0 5) fun o121 => ix x1 (sA S o121) <| if (gI D o121 x1.toNatClampNeg) = 0 then (f_X9_jumpKind_106 S D) else (some (0 : Int32)))) else (rq (gR D o0 4) fun o93 => ix x1 (sA S o93) <| if (gI D o93 x1.toNatClampNeg) = 0 then (if x3 = (9 : Int32) then (rq (gR D o0 5) fun o108 => ix x1 (sA S o108) <| if (gI D o108 x1.toNatClampNeg) = 0 then (some (4 : Int32)) else (some (0 : Int32))) else (rq (gR D o0 5) fun o100 => ix x1 (sA S o100) <| pq (f_X9_isHelper (gI D o100 x1.toNatClampNeg)) fun r106 => if r106 = 0 then (some (0 : Int32)) else (some (5 : Int32)))) else (some (0 : Int32)))
def f_X9_jumpKind_44 (S : sh) (D : dt) (o0 : Nat) (x1 : Int32) (x2 : Int32) (x3 : Int32) (x4 : Int32) : Option Int32 := if x4 = 0 then (rq (gR D o0 2) fun o128 => ix x1 (sA S o128) <| if (gI D o128 x1.toNatClampNeg) = 0 then (rq (gR D o0 3) fun o134 => ix x1 (sA S o134) <| if (gI D o134 x1.toNatClampNeg) = 0 then (if x2 = 0 then (if x3 = 0 then (f_X9_jumpKind_77 S D o0 x1 x2 x3) else (some (0 : Int32))) else (f_X9_jumpKind_77 S D o0 x1 x2 x3)) else (some (0 : Int32))) else (some (0 : Int32))) else (some (0 : Int32))
def f_X9_jumpKind_26 (S : sh) (D : dt) (o0 : Nat) (x1 : Int32) (x2 : Int32) (x3 : Int32) (xs0 : Int32) : Option Int32 := if x3 = 0 then (f_X9_jumpKind_44 S D o0 x1 x2 x3 xs0) else (if x3 = (8 : Int32) then (f_X9_jumpKind_44 S D o0 x1 x2 x3 xs0) else (if x3 = (9 : Int32) then (f_X9_jumpKind_44 S D o0 x1 x2 x3 xs0) else (if (13 : Int32) < x3 then (some (0 : Int32)) else (rq (gR D o0 2) fun o146 => ix x1 (sA S o146) <| if (gI D o146 x1.toNatClampNeg) < (11 : Int32) then (if xs0 = 0 then (rq (gR D o0 3) fun o153 => ix x1 (sA S o153) <| if (gI D o153 x1.toNatClampNeg) = 0 then (f_X9_jumpKind_220 S D) else (some (0 : Int32))) else (rq (gR D o0 5) fun o159 => ix x1 (sA S o159) <| if (gI D o159 x1.toNatClampNeg) = 0 then (rq (gR D o0 3) fun o165 => ix x1 (sA S o165) <| if (11 : Int32) ≤ (gI D o165 x1.toNatClampNeg) then (some (0 : Int32)) else (f_X9_jumpKind_220 S D)) else (some (0 : Int32)))) else (some (0 : Int32))))))
def f_X9_jumpKind (S : sh) (D : dt) (o0 : Nat) (x1 : Int32) (x2 : Int32) : Option Int32 := rq (gR D o0 1) fun o171 => ix x1 (sA S o171) <| nm ((gI D o171 x1.toNatClampNeg) >>> ((4 : Int32) &&& 31)) fun y176 => rq (gR D o0 1) fun o177 => ix x1 (sA S o177) <| if ((gI D o177 x1.toNatClampNeg) &&& (8 : Int32)) = 0 then (f_X9_jumpKind_26 S D o0 x1 x2 y176 (0 : Int32)) else (f_X9_jumpKind_26 S D o0 x1 x2 y176 (1 : Int32))
-- JudgedCodeModel.loadKind
def f_X9_loadKind (S : sh) (D : dt) (o0 : Nat) (x1 : Int32) : Option Int32 := rq (gR D o0 5) fun o37 => ix x1 (sA S o37) <| if (gI D o37 x1.toNatClampNeg) = 0 then (rq (gR D o0 2) fun o43 => ix x1 (sA S o43) <| if (9 : Int32) < (gI D o43 x1.toNatClampNeg) then (some (0 : Int32)) else (rq (gR D o0 3) fun o49 => ix x1 (sA S o49) <| if (gI D o49 x1.toNatClampNeg) < (11 : Int32) then (rq (gR D o0 1) fun o55 => ix x1 (sA S o55) <| if ((gI D o55 x1.toNatClampNeg) &&& (-25 : Int32)) = (97 : Int32) then (some (6 : Int32)) else (rq (gR D o0 1) fun o61 => ix x1 (sA S o61) <| if ((gI D o61 x1.toNatClampNeg) &&& (-25 : Int32)) = (129 : Int32) then (rq (gR D o0 1) fun o67 => ix x1 (sA S o67) <| if (gI D o67 x1.toNatClampNeg) = (153 : Int32) then (some (0 : Int32)) else (some (7 : Int32))) else (some (0 : Int32)))) else (some (0 : Int32)))) else (some (0 : Int32))
-- JudgedCodeModel.putKind
def f_X9_putKind_151 (S : sh) (D : dt) (o0 : Nat) (x1 : Int32) : Option Int32 := rq (gR D o0 3) fun o59 => ix x1 (sA S o59) <| if (10 : Int32) ≤ (gI D o59 x1.toNatClampNeg) then (some (0 : Int32)) else (some (10 : Int32))
def f_X9_putKind_80 (S : sh) (D : dt) (o0 : Nat) (x1 : Int32) : Option Int32 := rq (gR D o0 5) fun o65 => ix x1 (sA S o65) <| nm (gI D o65 x1.toNatClampNeg) fun y70 => if y70 = (241 : Int32) then (some (10 : Int32)) else (if y70 = 0 then (some (10 : Int32)) else (if y70 = (64 : Int32) then (some (10 : Int32)) else (if y70 = (80 : Int32) then (some (10 : Int32)) else (if y70 = (160 : Int32) then (some (10 : Int32)) else (if y70 = (1 : Int32) then (f_X9_putKind_151 S D o0 x1) else (if y70 = (65 : Int32) then (f_X9_putKind_151 S D o0 x1) else (if y70 = (81 : Int32) then (f_X9_putKind_151 S D o0 x1) else (if y70 = (161 : Int32) then (f_X9_putKind_151 S D o0 x1) else (if y70 = (225 : Int32) then (f_X9_putKind_151 S D o0 x1) else (some (0 : Int32)))))))))))
def f_X9_putKind (S : sh) (D : dt) (o0 : Nat) (x1 : Int32) : Option Int32 := rq (gR D o0 2) fun o81 => ix x1 (sA S o81) <| if (11 : Int32) ≤ (gI D o81 x1.toNatClampNeg) then (some (0 : Int32)) else (rq (gR D o0 3) fun o87 => ix x1 (sA S o87) <| if (gI D o87 x1.toNatClampNeg) < (11 : Int32) then (rq (gR D o0 1) fun o93 => ix x1 (sA S o93) <| if ((gI D o93 x1.toNatClampNeg) &&& (-25 : Int32)) = (99 : Int32) then (rq (gR D o0 5) fun o111 => ix x1 (sA S o111) <| if (gI D o111 x1.toNatClampNeg) = 0 then (some (9 : Int32)) else (some (0 : Int32))) else (rq (gR D o0 1) fun o99 => ix x1 (sA S o99) <| if (gI D o99 x1.toNatClampNeg) = (195 : Int32) then (f_X9_putKind_80 S D o0 x1) else (rq (gR D o0 1) fun o105 => ix x1 (sA S o105) <| if (gI D o105 x1.toNatClampNeg) = (219 : Int32) then (f_X9_putKind_80 S D o0 x1) else (some (0 : Int32))))) else (some (0 : Int32)))
-- JudgedCodeModel.kindOf
def f_X9_kindOf_65 (S : sh) (D : dt) (os0 : Nat) (xs1 : Int32) (xs2 : Int32) : Option Int32 := pq (f_X9_isRegister S D os0 xs1 xs2) fun r68 => if r68 = 0 then (some (0 : Int32)) else (some (1 : Int32))
def f_X9_kindOf_52 (S : sh) (D : dt) (o0 : Nat) (x1 : Int32) (x2 : Int32) : Option Int32 := if x2 = (7 : Int32) then (f_X9_kindOf_65 S D o0 x1 (1 : Int32)) else (f_X9_kindOf_65 S D o0 x1 (0 : Int32))
def f_X9_kindOf_89 (S : sh) (D : dt) (os0 : Nat) (xs1 : Int32) (xs2 : Int32) : Option Int32 := pq (f_X9_jumpKind S D os0 xs1 xs2) fun r72 => some r72
def f_X9_kindOf_77 (S : sh) (D : dt) (o0 : Nat) (x1 : Int32) (x2 : Int32) : Option Int32 := if x2 = (5 : Int32) then (f_X9_kindOf_89 S D o0 x1 (1 : Int32)) else (f_X9_kindOf_89 S D o0 x1 (0 : Int32))
def f_X9_kindOf (S : sh) (D : dt) (o0 : Nat) (x1 : Int32) : Option Int32 := rq (gR D o0 1) fun o74 => ix x1 (sA S o74) <| nm ((gI D o74 x1.toNatClampNeg) &&& (7 : Int32)) fun y79 => if y79 = 1 then (pq (f_X9_loadKind S D o0 x1) fun r82 => some r82) else if y79 = 2 then (rq (gR D o0 1) fun o84 => ix x1 (sA S o84) <| if ((gI D o84 x1.toNatClampNeg) &&& (-25 : Int32)) = (98 : Int32) then (rq (gR D o0 3) fun o90 => ix x1 (sA S o90) <| if (gI D o90 x1.toNatClampNeg) = 0 then (rq (gR D o0 2) fun o96 => ix x1 (sA S o96) <| if (11 : Int32) ≤ (gI D o96 x1.toNatClampNeg) then (some (0 : Int32)) else (some (8 : Int32))) else (some (0 : Int32))) else (some (0 : Int32))) else if y79 = 3 then (pq (f_X9_putKind S D o0 x1) fun r104 => some r104) else if y79 = 4 then (f_X9_kindOf_52 S D o0 x1 y79) else if y79 = 5 then (f_X9_kindOf_77 S D o0 x1 y79) else if y79 = 6 then (f_X9_kindOf_77 S D o0 x1 y79) else if y79 = 7 then (f_X9_kindOf_52 S D o0 x1 y79) else (rq (gR D o0 1) fun o109 => ix x1 (sA S o109) <| if (gI D o109 x1.toNatClampNeg) = (24 : Int32) then (rq (gR D o0 3) fun o115 => ix x1 (sA S o115) <| if (2 : Int32) ≤ (gI D o115 x1.toNatClampNeg) then (some (0 : Int32)) else (rq (gR D o0 2) fun o121 => ix x1 (sA S o121) <| if (10 : Int32) ≤ (gI D o121 x1.toNatClampNeg) then (some (0 : Int32)) else (rq (gR D o0 4) fun o127 => ix x1 (sA S o127) <| if (gI D o127 x1.toNatClampNeg) = 0 then (some (11 : Int32)) else (some (0 : Int32))))) else (some (0 : Int32)))
-- JudgedCodeModel.widthOf
def f_X9_widthOf (S : sh) (D : dt) (o0 : Nat) (x1 : Int32) : Option Int32 := rq (gR D o0 1) fun o10 => ix x1 (sA S o10) <| nm ((gI D o10 x1.toNatClampNeg) &&& (24 : Int32)) fun y15 => if y15 = 0 then (some (4 : Int32)) else (if y15 = (8 : Int32) then (some (2 : Int32)) else (if y15 = (16 : Int32) then (some (1 : Int32)) else (some (8 : Int32))))
-- JudgedCodeModel.isSecond
def f_X9_isSecond_56 (S : sh) (D : dt) : Option Int32 := some (1 : Int32)
def f_X9_isSecond (S : sh) (D : dt) (o0 : Nat) (x1 : Int32) : Option Int32 := rq (gR D o0 1) fun o37 => ix x1 (sA S o37) <| if (gI D o37 x1.toNatClampNeg) = 0 then (rq (gR D o0 2) fun o43 => ix x1 (sA S o43) <| if (gI D o43 x1.toNatClampNeg) = 0 then (rq (gR D o0 3) fun o49 => ix x1 (sA S o49) <| if (gI D o49 x1.toNatClampNeg) = 0 then (rq (gR D o0 4) fun o55 => ix x1 (sA S o55) <| if (gI D o55 x1.toNatClampNeg) = 0 then (rq (gR D o0 3) fun o61 => ix (x1 - (1 : Int32)) (sA S o61) <| if (gI D o61 (x1 - (1 : Int32)).toNatClampNeg) = 0 then (f_X9_isSecond_56 S D) else (rq (gR D o0 5) fun o67 => ix x1 (sA S o67) <| if (gI D o67 x1.toNatClampNeg) = 0 then (f_X9_isSecond_56 S D) else (some (0 : Int32)))) else (some (0 : Int32))) else (some (0 : Int32))) else (some (0 : Int32))) else (some (0 : Int32))
-- JudgedCodeModel.over
def f_X9_over (x0 : Int64) (x2 : Int64) : Option Int64 := if 0 ≤ (lg_cmp x2 (0 : Int64)) then (ck (¬ x2 = 0) <| nm (j_lshl ((j_lushr x0 (1 : Int32)) / x2) (1 : Int32)) fun y12 => pq (f_X9_isBelow (x0 - (y12 * x2)) x2) fun r14 => if r14 = 0 then (some (y12 + (1 : Int64))) else (some y12)) else (pq (f_X9_isBelow x0 x2) fun r17 => if r17 = 0 then (some (1 : Int64)) else (some (0 : Int64)))
-- JudgedCodeModel.signed
def f_X9_signed (x0 : Int64) (x2 : Int32) : Option Int64 := some (j_lshr (j_lshl x0 ((64 : Int32) - x2)) ((64 : Int32) - x2))
-- JudgedCodeModel.turned
def f_X9_turned_5 : Nat → Int64 → Int32 → Int64 → Int32 → Option Int64
  | 0, _, _, _, _ => none
  | n + 1, x0, x2, x3, x5 => if x2 ≤ x5 then (some x3) else (nm ((j_lshl x3 (8 : Int32)) ||| ((j_lshr x0 x5) &&& (255 : Int64))) fun y7 => nm (x5 + 8) fun y8 => f_X9_turned_5 n x0 x2 y7 y8)
def f_X9_turned (x0 : Int64) (x2 : Int32) : Option Int64 := nm ((0 : Int64)) fun y9 => nm ((0 : Int32)) fun y10 => f_X9_turned_5 LF x0 x2 y9 y10
theorem mk_X9_isHelper : MkS yX9_isHelper cX9_isHelper 1 (some .boolean) 1 := ⟨⟨lk_1325, lk_121, (tb_in (i := 1326) (by decide +kernel) (by decide +kernel))⟩, by decide +kernel⟩
theorem mk_X9_jumpKind : MkV yX9_jumpKind RX9 cX9_jumpKind 5 (some .int) 2 := ⟨⟨lk_1322, lk_67, lk_121, (tb_in (i := 1323) (by decide +kernel) (by decide +kernel))⟩, by decide +kernel⟩
theorem mk_X9_loadKind : MkV yX9_loadKind RX9 cX9_loadKind 2 (some .int) 1 := ⟨⟨lk_1330, lk_68, lk_121, (tb_in (i := 1331) (by decide +kernel) (by decide +kernel))⟩, by decide +kernel⟩
theorem mk_X9_putKind : MkV yX9_putKind RX9 cX9_putKind 3 (some .int) 1 := ⟨⟨lk_1334, lk_69, lk_121, (tb_in (i := 1335) (by decide +kernel) (by decide +kernel))⟩, by decide +kernel⟩
theorem mk_X9_kindOf : MkV yX9_kindOf RX9 cX9_kindOf 3 (some .int) 1 := ⟨⟨lk_1314, lk_65, lk_121, (tb_in (i := 1315) (by decide +kernel) (by decide +kernel))⟩, by decide +kernel⟩
theorem mk_X9_widthOf : MkV yX9_widthOf RX9 cX9_widthOf 3 (some .int) 1 := ⟨⟨lk_1310, lk_64, lk_121, (tb_in (i := 1311) (by decide +kernel) (by decide +kernel))⟩, by decide +kernel⟩
theorem mk_X9_isSecond : MkV yX9_isSecond RX9 cX9_isSecond 2 (some .boolean) 1 := ⟨⟨lk_1414, lk_84, lk_121, (tb_in (i := 1415) (by decide +kernel) (by decide +kernel))⟩, by decide +kernel⟩
theorem mk_X9_over : MkS yX9_over cX9_over 6 (some .long) 2 := ⟨⟨lk_1356, lk_121, (tb_in (i := 1357) (by decide +kernel) (by decide +kernel))⟩, by decide +kernel⟩
theorem mk_X9_signed : MkS yX9_signed cX9_signed 3 (some .long) 2 := ⟨⟨lk_1363, lk_121, (tb_in (i := 1364) (by decide +kernel) (by decide +kernel))⟩, by decide +kernel⟩
theorem mk_X9_turned : MkS yX9_turned cX9_turned 6 (some .long) 2 := ⟨⟨lk_1345, lk_121, (tb_in (i := 1346) (by decide +kernel) (by decide +kernel))⟩, by decide +kernel⟩
section
variable {p : Program} {l : Launch} {e : Env} {R : Room} {s : State} {m : MethodId} {args : Array Value} {below : List Frame} {meth : Method} {c : Code} {H : Heap} {locs : List Loc} {G : va_G} {cA : Nat → ClassId} {S : sh} {D : dt} {ad : Nat → Nat} {A : Nat → Prop}
set_option maxHeartbeats 4000000 in
set_option maxRecDepth 100000 in
theorem w_X9_isHelper_23 {r : Int32} (hC : Cx RX9 cX9_isHelper 1 (some .boolean) p s m args meth c) (hR : 1 ≤ R.frames ∧ 25 ≤ R.locals) : ∀  (H : Heap) (locs : List Loc) (ls : Array Slot), Wd G cA S D ad A s H locs → lv_has ls 1 [] → f_X9_isHelper_23 = some r → W p l e R s m args below meth c H locs 0 0 (MQ below (Qn (some (.int r)) True (wpost G cA S D ad A) A) args s 0 0 A) (F0 m 23 ls []) := by
  obtain ⟨hx, hb, -⟩ := id hC
  intro H locs ls hw hl h
  unfold f_X9_isHelper_23 at h
  refine lv_iconst (v := 1) hx hb dX9_isHelper_23 (by decide) ?_
  refine lv_goto (tgt := 28) hx hb dX9_isHelper_24 (by decide) ?_
  cases h
  exact r_zret hC hw (Or.inr rfl) dX9_isHelper_28
set_option maxHeartbeats 4000000 in
set_option maxRecDepth 100000 in
theorem w_X9_isHelper_0 {r : Int32} (hC : Cx RX9 cX9_isHelper 1 (some .boolean) p s m args meth c) (hR : 1 ≤ R.frames ∧ 25 ≤ R.locals) : ∀ (x0 : Int32) (H : Heap) (locs : List Loc) (ls : Array Slot), Wd G cA S D ad A s H locs → lv_has ls 1 [(0, .int x0)] → f_X9_isHelper x0 = some r → W p l e R s m args below meth c H locs 0 0 (MQ below (Qn (some (.int r)) True (wpost G cA S D ad A) A) args s 0 0 A) (F0 m 0 ls []) := by
  obtain ⟨hx, hb, -⟩ := id hC
  intro x0 H locs ls hw hl h
  unfold f_X9_isHelper at h
  refine lv_iload_n hx hb dX9_isHelper_0 rfl (lv_at hl 0 rfl) ?_
  refine lv_i2l (v := x0.toInt64) hx hb dX9_isHelper_1 rfl ?_
  refine lv_lconst (v := 1) hx hb dX9_isHelper_2 (by decide) ?_
  refine lv_ldc2 (v := 3) hx hb hC.2.2.2.1 (hC.2.2.2.2.1 _ lk_1327) dX9_isHelper_3 ?_
  obtain ⟨r7, hq6, h⟩ := pq_i h
  refine r_cS (st' := [.int r7]) [.long x0.toInt64, .long (1 : Int64), .long (3 : Int64)] [] hC hw (k_X9_in _ hq6) mk_X9_in lk_1243 ⟨Nat.le_trans (by decide) hR.1, Nat.le_trans (by decide) hR.2⟩ ⟨Nat.zero_le _, Nat.zero_le _⟩ rfl hl.1 rfl rfl (Nat.le_of_ble_eq_true rfl) dX9_isHelper_6 (fun hP H locs hw => ?_)
  refine lv_if_ne (tgt := 23) hx hb dX9_isHelper_9 (by decide) (fun c8 => ?_) (fun c8 => ?_)
  · have h := i_no c8 h
    exact w_X9_isHelper_23 hC hR _ _ _ hw (lv_sub hl [] rfl) h
  · have h := i_yes c8 h
    refine lv_iload_n hx hb dX9_isHelper_12 rfl (lv_at hl 0 rfl) ?_
    refine lv_iconst (v := 5) hx hb dX9_isHelper_13 (by decide) ?_
    refine lv_icmp_eq (tgt := 23) hx hb dX9_isHelper_14 (by decide) (fun c9 => ?_) (fun c9 => ?_)
    · have h := i_yes c9 h
      exact w_X9_isHelper_23 hC hR _ _ _ hw (lv_sub hl [] rfl) h
    · have h := i_no c9 h
      refine lv_iload_n hx hb dX9_isHelper_17 rfl (lv_at hl 0 rfl) ?_
      refine lv_bipush (v := 6) hx hb dX9_isHelper_18 (by decide) ?_
      refine lv_icmp_ne (tgt := 27) hx hb dX9_isHelper_20 (by decide) (fun c10 => ?_) (fun c10 => ?_)
      · have h := i_no c10 h
        refine lv_iconst (v := 0) hx hb dX9_isHelper_27 (by decide) ?_
        cases h
        exact r_zret hC hw (Or.inl rfl) dX9_isHelper_28
      · have h := i_yes c10 h
        exact w_X9_isHelper_23 hC hR _ _ _ hw (lv_sub hl [] rfl) h
set_option maxHeartbeats 4000000 in
set_option maxRecDepth 100000 in
theorem k_X9_isHelper {l : Launch} {G : va_G} {cA : Nat → ClassId} {S : sh} {D : dt} {ad : Nat → Nat} (sz : Nat) {x0 : Int32} {r : Int32}  (h : f_X9_isHelper x0 = some r) : Co l yX9_isHelper (Cond.code yX9_isHelper cX9_isHelper 1 (some .boolean) :: tb0) 1 25 [.int x0] G cA S D ad sz (some (.int r)) True D := by
  refine Met.ofW (cc := cX9_isHelper) (maxL := 1) (ret := (some .boolean)) (by decide) rfl ?_
  intro p e s m args below meth c s₁ B hml hv
  obtain ⟨rfl, hsz, hP, hK, hD0, hT, hX⟩ := hv
  subst hsz
  have hts := atoms_spec (ws := Cond.code yX9_isHelper cX9_isHelper 1 (some .boolean) :: tb0) B.pre
  have hC : Cx RX9 cX9_isHelper 1 (some .boolean) p s m _ meth c := ⟨B.exec, B.bytes, hml, findClass_of_methodNamed B.named, fun w q => hts w (List.mem_cons_of_mem _ q), B.returns, B.notSynchronized⟩
  have hw := Wd.entry hP hK hD0 hT hX
  have hl := lv_entry ([.int x0]) (n := 1) (Nat.le_of_ble_eq_true rfl)
  rw [lg_entry_eq]
  exact w_X9_isHelper_0 hC ⟨Nat.le_refl _, Nat.le_refl _⟩ x0 _ _ _ hw hl h
set_option maxHeartbeats 4000000 in
set_option maxRecDepth 100000 in
theorem w_X9_jumpKind_220 {r : Int32} (hC : Cx RX9 cX9_jumpKind 5 (some .int) p s m args meth c) (hR : 2 ≤ R.frames ∧ 45 ≤ R.locals) : ∀  (H : Heap) (locs : List Loc) (ls : Array Slot), Wd G cA S D ad A s H locs → lv_has ls 5 [] → f_X9_jumpKind_220 S D = some r → W p l e R s m args below meth c H locs 0 0 (MQ below (Qn (some (.int r)) True (wpost G cA S D ad A) A) args s 0 0 A) (F0 m 220 ls []) := by
  obtain ⟨hx, hb, -⟩ := id hC
  intro H locs ls  hw hl h
  unfold f_X9_jumpKind_220 at h
  refine lv_iconst (v := 2) hx hb dX9_jumpKind_220 (by decide) ?_
  refine lv_goto (tgt := 225) hx hb dX9_jumpKind_221 (by decide) ?_
  cases h
  exact r_iret hC hw dX9_jumpKind_225
set_option maxHeartbeats 4000000 in
set_option maxRecDepth 100000 in
theorem w_X9_jumpKind_106 {r : Int32} (hC : Cx RX9 cX9_jumpKind 5 (some .int) p s m args meth c) (hR : 2 ≤ R.frames ∧ 45 ≤ R.locals) : ∀  (H : Heap) (locs : List Loc) (ls : Array Slot), Wd G cA S D ad A s H locs → lv_has ls 5 [] → f_X9_jumpKind_106 S D = some r → W p l e R s m args below meth c H locs 0 0 (MQ below (Qn (some (.int r)) True (wpost G cA S D ad A) A) args s 0 0 A) (F0 m 106 ls []) := by
  obtain ⟨hx, hb, -⟩ := id hC
  intro H locs ls  hw hl h
  unfold f_X9_jumpKind_106 at h
  refine lv_iconst (v := 3) hx hb dX9_jumpKind_106 (by decide) ?_
  refine lv_goto (tgt := 111) hx hb dX9_jumpKind_107 (by decide) ?_
  cases h
  exact r_iret hC hw dX9_jumpKind_111
set_option maxHeartbeats 4000000 in
set_option maxRecDepth 100000 in
theorem w_X9_jumpKind_77 {r : Int32} (hC : Cx RX9 cX9_jumpKind 5 (some .int) p s m args meth c) (hR : 2 ≤ R.frames ∧ 45 ≤ R.locals) : ∀ (o0 a0 : Nat) (x1 : Int32) (x2 : Int32) (x3 : Int32) (H : Heap) (locs : List Loc) (ls : Array Slot), Is S ad o0 a0 8 → Wd G cA S D ad A s H locs → lv_has ls 5 [(0, .ref a0), (1, .int x1), (2, .int x2), (3, .int x3)] → f_X9_jumpKind_77 S D o0 x1 x2 x3 = some r → W p l e R s m args below meth c H locs 0 0 (MQ below (Qn (some (.int r)) True (wpost G cA S D ad A) A) args s 0 0 A) (F0 m 77 ls []) := by
  obtain ⟨hx, hb, -⟩ := id hC
  intro o0 a0 x1 x2 x3 H locs ls hi0 hw hl h
  unfold f_X9_jumpKind_77 at h
  refine lv_iload_n hx hb dX9_jumpKind_77 rfl (lv_at hl 3 rfl) ?_
  refine lv_if_ne (tgt := 112) hx hb dX9_jumpKind_78 (by decide) (fun c92 => ?_) (fun c92 => ?_)
  · have h := i_no c92 h
    refine lv_aload_n hx hb dX9_jumpKind_112 rfl (lv_at hl 0 rfl) ?_
    obtain ⟨o93, ho96, h⟩ := rq_i h
    refine r_getR hC hw kc_8 hi0 4 rfl lk_1076 dX9_jumpKind_113 rfl ho96 (fun a94 hi95 => ?_)
    refine lv_iload_n hx hb dX9_jumpKind_116 rfl (lv_at hl 1 rfl) ?_
    obtain ⟨hn97, h⟩ := ix_i h
    refine r_iald hC hw hi95 hn97 dX9_jumpKind_117 ?_
    refine lv_if_eq (tgt := 123) hx hb dX9_jumpKind_118 (by decide) (fun c98 => ?_) (fun c98 => ?_)
    · have h := i_yes c98 h
      refine lv_iload_n hx hb dX9_jumpKind_123 rfl (lv_at hl 3 rfl) ?_
      refine lv_bipush (v := 9) hx hb dX9_jumpKind_124 (by decide) ?_
      refine lv_icmp_ne (tgt := 146) hx hb dX9_jumpKind_126 (by decide) (fun c99 => ?_) (fun c99 => ?_)
      · have h := i_no c99 h
        refine lv_aload_n hx hb dX9_jumpKind_146 rfl (lv_at hl 0 rfl) ?_
        obtain ⟨o100, ho103, h⟩ := rq_i h
        refine r_getR hC hw kc_8 hi0 5 rfl lk_1077 dX9_jumpKind_147 rfl ho103 (fun a101 hi102 => ?_)
        refine lv_iload_n hx hb dX9_jumpKind_150 rfl (lv_at hl 1 rfl) ?_
        obtain ⟨hn104, h⟩ := ix_i h
        refine r_iald hC hw hi102 hn104 dX9_jumpKind_151 ?_
        obtain ⟨r106, hq105, h⟩ := pq_i h
        refine r_cS (st' := [.int r106]) [.int (gI D o100 x1.toNatClampNeg)] [] hC hw (k_X9_isHelper _ hq105) mk_X9_isHelper lk_1324 ⟨Nat.le_trans (by decide) hR.1, Nat.le_trans (by decide) hR.2⟩ ⟨Nat.zero_le _, Nat.zero_le _⟩ rfl hl.1 rfl rfl (Nat.le_of_ble_eq_true rfl) dX9_jumpKind_152 (fun hP H locs hw => ?_)
        refine lv_if_eq (tgt := 162) hx hb dX9_jumpKind_155 (by decide) (fun c107 => ?_) (fun c107 => ?_)
        · have h := i_yes c107 h
          refine lv_iconst (v := 0) hx hb dX9_jumpKind_162 (by decide) ?_
          cases h
          exact r_iret hC hw dX9_jumpKind_163
        · have h := i_no c107 h
          refine lv_iconst (v := 5) hx hb dX9_jumpKind_158 (by decide) ?_
          refine lv_goto (tgt := 163) hx hb dX9_jumpKind_159 (by decide) ?_
          cases h
          exact r_iret hC hw dX9_jumpKind_163
      · have h := i_yes c99 h
        refine lv_aload_n hx hb dX9_jumpKind_129 rfl (lv_at hl 0 rfl) ?_
        obtain ⟨o108, ho111, h⟩ := rq_i h
        refine r_getR hC hw kc_8 hi0 5 rfl lk_1077 dX9_jumpKind_130 rfl ho111 (fun a109 hi110 => ?_)
        refine lv_iload_n hx hb dX9_jumpKind_133 rfl (lv_at hl 1 rfl) ?_
        obtain ⟨hn112, h⟩ := ix_i h
        refine r_iald hC hw hi110 hn112 dX9_jumpKind_134 ?_
        refine lv_if_ne (tgt := 142) hx hb dX9_jumpKind_135 (by decide) (fun c113 => ?_) (fun c113 => ?_)
        · have h := i_no c113 h
          refine lv_iconst (v := 0) hx hb dX9_jumpKind_142 (by decide) ?_
          refine lv_goto (tgt := 163) hx hb dX9_jumpKind_143 (by decide) ?_
          cases h
          exact r_iret hC hw dX9_jumpKind_163
        · have h := i_yes c113 h
          refine lv_iconst (v := 4) hx hb dX9_jumpKind_138 (by decide) ?_
          refine lv_goto (tgt := 163) hx hb dX9_jumpKind_139 (by decide) ?_
          cases h
          exact r_iret hC hw dX9_jumpKind_163
    · have h := i_no c98 h
      refine lv_iconst (v := 0) hx hb dX9_jumpKind_121 (by decide) ?_
      cases h
      exact r_iret hC hw dX9_jumpKind_122
  · have h := i_yes c92 h
    refine lv_iload_n hx hb dX9_jumpKind_81 rfl (lv_at hl 2 rfl) ?_
    refine lv_if_eq (tgt := 97) hx hb dX9_jumpKind_82 (by decide) (fun c114 => ?_) (fun c114 => ?_)
    · have h := i_yes c114 h
      refine lv_aload_n hx hb dX9_jumpKind_97 rfl (lv_at hl 0 rfl) ?_
      obtain ⟨o115, ho118, h⟩ := rq_i h
      refine r_getR hC hw kc_8 hi0 4 rfl lk_1076 dX9_jumpKind_98 rfl ho118 (fun a116 hi117 => ?_)
      refine lv_iload_n hx hb dX9_jumpKind_101 rfl (lv_at hl 1 rfl) ?_
      obtain ⟨hn119, h⟩ := ix_i h
      refine r_iald hC hw hi117 hn119 dX9_jumpKind_102 ?_
      refine lv_if_ne (tgt := 110) hx hb dX9_jumpKind_103 (by decide) (fun c120 => ?_) (fun c120 => ?_)
      · have h := i_no c120 h
        refine lv_iconst (v := 0) hx hb dX9_jumpKind_110 (by decide) ?_
        cases h
        exact r_iret hC hw dX9_jumpKind_111
      · have h := i_yes c120 h
        exact w_X9_jumpKind_106 hC hR _ _ _ hw (lv_sub hl [] rfl) h
    · have h := i_no c114 h
      refine lv_aload_n hx hb dX9_jumpKind_85 rfl (lv_at hl 0 rfl) ?_
      obtain ⟨o121, ho124, h⟩ := rq_i h
      refine r_getR hC hw kc_8 hi0 5 rfl lk_1077 dX9_jumpKind_86 rfl ho124 (fun a122 hi123 => ?_)
      refine lv_iload_n hx hb dX9_jumpKind_89 rfl (lv_at hl 1 rfl) ?_
      obtain ⟨hn125, h⟩ := ix_i h
      refine r_iald hC hw hi123 hn125 dX9_jumpKind_90 ?_
      refine lv_if_ne (tgt := 110) hx hb dX9_jumpKind_91 (by decide) (fun c126 => ?_) (fun c126 => ?_)
      · have h := i_no c126 h
        refine lv_iconst (v := 0) hx hb dX9_jumpKind_110 (by decide) ?_
        cases h
        exact r_iret hC hw dX9_jumpKind_111
      · have h := i_yes c126 h
        refine lv_goto (tgt := 106) hx hb dX9_jumpKind_94 (by decide) ?_
        exact w_X9_jumpKind_106 hC hR _ _ _ hw (lv_sub hl [] rfl) h
set_option maxHeartbeats 4000000 in
set_option maxRecDepth 100000 in
theorem w_X9_jumpKind_44 {r : Int32} (hC : Cx RX9 cX9_jumpKind 5 (some .int) p s m args meth c) (hR : 2 ≤ R.frames ∧ 45 ≤ R.locals) : ∀ (o0 a0 : Nat) (x1 : Int32) (x2 : Int32) (x3 : Int32) (x4 : Int32) (H : Heap) (locs : List Loc) (ls : Array Slot), Is S ad o0 a0 8 → Wd G cA S D ad A s H locs → lv_has ls 5 [(0, .ref a0), (1, .int x1), (2, .int x2), (3, .int x3), (4, .int x4)] → f_X9_jumpKind_44 S D o0 x1 x2 x3 x4 = some r → W p l e R s m args below meth c H locs 0 0 (MQ below (Qn (some (.int r)) True (wpost G cA S D ad A) A) args s 0 0 A) (F0 m 44 ls []) := by
  obtain ⟨hx, hb, -⟩ := id hC
  intro o0 a0 x1 x2 x3 x4 H locs ls hi0 hw hl h
  unfold f_X9_jumpKind_44 at h
  refine lv_iload hx hb dX9_jumpKind_44 (lv_at hl 4 rfl) ?_
  refine lv_if_ne (tgt := 75) hx hb dX9_jumpKind_46 (by decide) (fun c127 => ?_) (fun c127 => ?_)
  · have h := i_no c127 h
    refine lv_iconst (v := 0) hx hb dX9_jumpKind_75 (by decide) ?_
    cases h
    exact r_iret hC hw dX9_jumpKind_76
  · have h := i_yes c127 h
    refine lv_aload_n hx hb dX9_jumpKind_49 rfl (lv_at hl 0 rfl) ?_
    obtain ⟨o128, ho131, h⟩ := rq_i h
    refine r_getR hC hw kc_8 hi0 2 rfl lk_1074 dX9_jumpKind_50 rfl ho131 (fun a129 hi130 => ?_)
    refine lv_iload_n hx hb dX9_jumpKind_53 rfl (lv_at hl 1 rfl) ?_
    obtain ⟨hn132, h⟩ := ix_i h
    refine r_iald hC hw hi130 hn132 dX9_jumpKind_54 ?_
    refine lv_if_ne (tgt := 75) hx hb dX9_jumpKind_55 (by decide) (fun c133 => ?_) (fun c133 => ?_)
    · have h := i_no c133 h
      refine lv_iconst (v := 0) hx hb dX9_jumpKind_75 (by decide) ?_
      cases h
      exact r_iret hC hw dX9_jumpKind_76
    · have h := i_yes c133 h
      refine lv_aload_n hx hb dX9_jumpKind_58 rfl (lv_at hl 0 rfl) ?_
      obtain ⟨o134, ho137, h⟩ := rq_i h
      refine r_getR hC hw kc_8 hi0 3 rfl lk_1075 dX9_jumpKind_59 rfl ho137 (fun a135 hi136 => ?_)
      refine lv_iload_n hx hb dX9_jumpKind_62 rfl (lv_at hl 1 rfl) ?_
      obtain ⟨hn138, h⟩ := ix_i h
      refine r_iald hC hw hi136 hn138 dX9_jumpKind_63 ?_
      refine lv_if_ne (tgt := 75) hx hb dX9_jumpKind_64 (by decide) (fun c139 => ?_) (fun c139 => ?_)
      · have h := i_no c139 h
        refine lv_iconst (v := 0) hx hb dX9_jumpKind_75 (by decide) ?_
        cases h
        exact r_iret hC hw dX9_jumpKind_76
      · have h := i_yes c139 h
        refine lv_iload_n hx hb dX9_jumpKind_67 rfl (lv_at hl 2 rfl) ?_
        refine lv_if_ne (tgt := 77) hx hb dX9_jumpKind_68 (by decide) (fun c140 => ?_) (fun c140 => ?_)
        · have h := i_no c140 h
          exact w_X9_jumpKind_77 hC hR o0 a0 x1 x2 x3 _ _ _ hi0 hw (lv_sub hl [0, 1, 2, 3] rfl) h
        · have h := i_yes c140 h
          refine lv_iload_n hx hb dX9_jumpKind_71 rfl (lv_at hl 3 rfl) ?_
          refine lv_if_eq (tgt := 77) hx hb dX9_jumpKind_72 (by decide) (fun c141 => ?_) (fun c141 => ?_)
          · have h := i_yes c141 h
            exact w_X9_jumpKind_77 hC hR o0 a0 x1 x2 x3 _ _ _ hi0 hw (lv_sub hl [0, 1, 2, 3] rfl) h
          · have h := i_no c141 h
            refine lv_iconst (v := 0) hx hb dX9_jumpKind_75 (by decide) ?_
            cases h
            exact r_iret hC hw dX9_jumpKind_76
set_option maxHeartbeats 4000000 in
set_option maxRecDepth 100000 in
theorem w_X9_jumpKind_26 {r : Int32} (hC : Cx RX9 cX9_jumpKind 5 (some .int) p s m args meth c) (hR : 2 ≤ R.frames ∧ 45 ≤ R.locals) : ∀ (o0 a0 : Nat) (x1 : Int32) (x2 : Int32) (x3 : Int32) (xs0 : Int32) (H : Heap) (locs : List Loc) (ls : Array Slot), Is S ad o0 a0 8 → Wd G cA S D ad A s H locs → lv_has ls 5 [(0, .ref a0), (1, .int x1), (2, .int x2), (3, .int x3)] → f_X9_jumpKind_26 S D o0 x1 x2 x3 xs0 = some r → W p l e R s m args below meth c H locs 0 0 (MQ below (Qn (some (.int r)) True (wpost G cA S D ad A) A) args s 0 0 A) (F0 m 26 ls [.int xs0]) := by
  obtain ⟨hx, hb, -⟩ := id hC
  intro o0 a0 x1 x2 x3 xs0 H locs ls hi0 hw hl h
  unfold f_X9_jumpKind_26 at h
  refine lv_istore (lv' := [(4, .int xs0), (0, .ref a0), (1, .int x1), (2, .int x2), (3, .int x3)]) hx hb dX9_jumpKind_26 hl (by decide) rfl (fun ls hl => ?_)
  refine lv_iload_n hx hb dX9_jumpKind_28 rfl (lv_at hl 4 rfl) ?_
  refine lv_if_eq (tgt := 44) hx hb dX9_jumpKind_29 (by decide) (fun c142 => ?_) (fun c142 => ?_)
  · have h := i_yes c142 h
    exact w_X9_jumpKind_44 hC hR o0 a0 x1 x2 x3 xs0 _ _ _ hi0 hw (lv_sub hl [1, 2, 3, 4, 0] rfl) h
  · have h := i_no c142 h
    refine lv_iload_n hx hb dX9_jumpKind_32 rfl (lv_at hl 4 rfl) ?_
    refine lv_bipush (v := 8) hx hb dX9_jumpKind_33 (by decide) ?_
    refine lv_icmp_eq (tgt := 44) hx hb dX9_jumpKind_35 (by decide) (fun c143 => ?_) (fun c143 => ?_)
    · have h := i_yes c143 h
      exact w_X9_jumpKind_44 hC hR o0 a0 x1 x2 x3 xs0 _ _ _ hi0 hw (lv_sub hl [1, 2, 3, 4, 0] rfl) h
    · have h := i_no c143 h
      refine lv_iload_n hx hb dX9_jumpKind_38 rfl (lv_at hl 4 rfl) ?_
      refine lv_bipush (v := 9) hx hb dX9_jumpKind_39 (by decide) ?_
      refine lv_icmp_ne (tgt := 164) hx hb dX9_jumpKind_41 (by decide) (fun c144 => ?_) (fun c144 => ?_)
      · have h := i_no c144 h
        refine lv_iload_n hx hb dX9_jumpKind_164 rfl (lv_at hl 4 rfl) ?_
        refine lv_bipush (v := 13) hx hb dX9_jumpKind_165 (by decide) ?_
        refine lv_icmp_gt (tgt := 181) hx hb dX9_jumpKind_167 (by decide) (fun c145 => ?_) (fun c145 => ?_)
        · have h := i_yes c145 h
          refine lv_iconst (v := 0) hx hb dX9_jumpKind_181 (by decide) ?_
          cases h
          exact r_iret hC hw dX9_jumpKind_182
        · have h := i_no c145 h
          refine lv_aload_n hx hb dX9_jumpKind_170 rfl (lv_at hl 1 rfl) ?_
          obtain ⟨o146, ho149, h⟩ := rq_i h
          refine r_getR hC hw kc_8 hi0 2 rfl lk_1074 dX9_jumpKind_171 rfl ho149 (fun a147 hi148 => ?_)
          refine lv_iload_n hx hb dX9_jumpKind_174 rfl (lv_at hl 2 rfl) ?_
          obtain ⟨hn150, h⟩ := ix_i h
          refine r_iald hC hw hi148 hn150 dX9_jumpKind_175 ?_
          refine lv_bipush (v := 11) hx hb dX9_jumpKind_176 (by decide) ?_
          refine lv_icmp_lt (tgt := 183) hx hb dX9_jumpKind_178 (by decide) (fun c151 => ?_) (fun c151 => ?_)
          · have h := i_yes c151 h
            refine lv_iload hx hb dX9_jumpKind_183 (lv_at hl 0 rfl) ?_
            refine lv_if_eq (tgt := 211) hx hb dX9_jumpKind_185 (by decide) (fun c152 => ?_) (fun c152 => ?_)
            · have h := i_yes c152 h
              refine lv_aload_n hx hb dX9_jumpKind_211 rfl (lv_at hl 1 rfl) ?_
              obtain ⟨o153, ho156, h⟩ := rq_i h
              refine r_getR hC hw kc_8 hi0 3 rfl lk_1075 dX9_jumpKind_212 rfl ho156 (fun a154 hi155 => ?_)
              refine lv_iload_n hx hb dX9_jumpKind_215 rfl (lv_at hl 2 rfl) ?_
              obtain ⟨hn157, h⟩ := ix_i h
              refine r_iald hC hw hi155 hn157 dX9_jumpKind_216 ?_
              refine lv_if_ne (tgt := 224) hx hb dX9_jumpKind_217 (by decide) (fun c158 => ?_) (fun c158 => ?_)
              · have h := i_no c158 h
                refine lv_iconst (v := 0) hx hb dX9_jumpKind_224 (by decide) ?_
                cases h
                exact r_iret hC hw dX9_jumpKind_225
              · have h := i_yes c158 h
                exact w_X9_jumpKind_220 hC hR _ _ _ hw (lv_sub hl [] rfl) h
            · have h := i_no c152 h
              refine lv_aload_n hx hb dX9_jumpKind_188 rfl (lv_at hl 1 rfl) ?_
              obtain ⟨o159, ho162, h⟩ := rq_i h
              refine r_getR hC hw kc_8 hi0 5 rfl lk_1077 dX9_jumpKind_189 rfl ho162 (fun a160 hi161 => ?_)
              refine lv_iload_n hx hb dX9_jumpKind_192 rfl (lv_at hl 2 rfl) ?_
              obtain ⟨hn163, h⟩ := ix_i h
              refine r_iald hC hw hi161 hn163 dX9_jumpKind_193 ?_
              refine lv_if_ne (tgt := 224) hx hb dX9_jumpKind_194 (by decide) (fun c164 => ?_) (fun c164 => ?_)
              · have h := i_no c164 h
                refine lv_iconst (v := 0) hx hb dX9_jumpKind_224 (by decide) ?_
                cases h
                exact r_iret hC hw dX9_jumpKind_225
              · have h := i_yes c164 h
                refine lv_aload_n hx hb dX9_jumpKind_197 rfl (lv_at hl 1 rfl) ?_
                obtain ⟨o165, ho168, h⟩ := rq_i h
                refine r_getR hC hw kc_8 hi0 3 rfl lk_1075 dX9_jumpKind_198 rfl ho168 (fun a166 hi167 => ?_)
                refine lv_iload_n hx hb dX9_jumpKind_201 rfl (lv_at hl 2 rfl) ?_
                obtain ⟨hn169, h⟩ := ix_i h
                refine r_iald hC hw hi167 hn169 dX9_jumpKind_202 ?_
                refine lv_bipush (v := 11) hx hb dX9_jumpKind_203 (by decide) ?_
                refine lv_icmp_ge (tgt := 224) hx hb dX9_jumpKind_205 (by decide) (fun c170 => ?_) (fun c170 => ?_)
                · have h := i_yes c170 h
                  refine lv_iconst (v := 0) hx hb dX9_jumpKind_224 (by decide) ?_
                  cases h
                  exact r_iret hC hw dX9_jumpKind_225
                · have h := i_no c170 h
                  refine lv_goto (tgt := 220) hx hb dX9_jumpKind_208 (by decide) ?_
                  exact w_X9_jumpKind_220 hC hR _ _ _ hw (lv_sub hl [] rfl) h
          · have h := i_no c151 h
            refine lv_iconst (v := 0) hx hb dX9_jumpKind_181 (by decide) ?_
            cases h
            exact r_iret hC hw dX9_jumpKind_182
      · have h := i_yes c144 h
        exact w_X9_jumpKind_44 hC hR o0 a0 x1 x2 x3 xs0 _ _ _ hi0 hw (lv_sub hl [1, 2, 3, 4, 0] rfl) h
set_option maxHeartbeats 4000000 in
set_option maxRecDepth 100000 in
theorem w_X9_jumpKind_0 {r : Int32} (hC : Cx RX9 cX9_jumpKind 5 (some .int) p s m args meth c) (hR : 2 ≤ R.frames ∧ 45 ≤ R.locals) : ∀ (o0 a0 : Nat) (x1 : Int32) (x2 : Int32) (H : Heap) (locs : List Loc) (ls : Array Slot), Is S ad o0 a0 8 → Wd G cA S D ad A s H locs → lv_has ls 5 [(0, .ref a0), (1, .int x1), (2, .int x2)] → f_X9_jumpKind S D o0 x1 x2 = some r → W p l e R s m args below meth c H locs 0 0 (MQ below (Qn (some (.int r)) True (wpost G cA S D ad A) A) args s 0 0 A) (F0 m 0 ls []) := by
  obtain ⟨hx, hb, -⟩ := id hC
  intro o0 a0 x1 x2 H locs ls hi0 hw hl h
  unfold f_X9_jumpKind at h
  refine lv_aload_n hx hb dX9_jumpKind_0 rfl (lv_at hl 0 rfl) ?_
  obtain ⟨o171, ho174, h⟩ := rq_i h
  refine r_getR hC hw kc_8 hi0 1 rfl lk_1073 dX9_jumpKind_1 rfl ho174 (fun a172 hi173 => ?_)
  refine lv_iload_n hx hb dX9_jumpKind_4 rfl (lv_at hl 1 rfl) ?_
  obtain ⟨hn175, h⟩ := ix_i h
  refine r_iald hC hw hi173 hn175 dX9_jumpKind_5 ?_
  refine lv_iconst (v := 4) hx hb dX9_jumpKind_6 (by decide) ?_
  refine lv_ishr hx hb dX9_jumpKind_7 ?_
  refine lv_topi (fun y176 ey176 => ?_)
  have h := nm_i h y176 ey176
  refine lv_istore_n (lv' := [(3, .int y176), (0, .ref a0), (1, .int x1), (2, .int x2)]) hx hb dX9_jumpKind_8 rfl hl (by decide) rfl (fun ls hl => ?_)
  refine lv_aload_n hx hb dX9_jumpKind_9 rfl (lv_at hl 1 rfl) ?_
  obtain ⟨o177, ho180, h⟩ := rq_i h
  refine r_getR hC hw kc_8 hi0 1 rfl lk_1073 dX9_jumpKind_10 rfl ho180 (fun a178 hi179 => ?_)
  refine lv_iload_n hx hb dX9_jumpKind_13 rfl (lv_at hl 2 rfl) ?_
  obtain ⟨hn181, h⟩ := ix_i h
  refine r_iald hC hw hi179 hn181 dX9_jumpKind_14 ?_
  refine lv_bipush (v := 8) hx hb dX9_jumpKind_15 (by decide) ?_
  refine lv_iand hx hb dX9_jumpKind_17 ?_
  refine lv_if_eq (tgt := 25) hx hb dX9_jumpKind_18 (by decide) (fun c182 => ?_) (fun c182 => ?_)
  · have h := i_yes c182 h
    refine lv_iconst (v := 0) hx hb dX9_jumpKind_25 (by decide) ?_
    exact w_X9_jumpKind_26 hC hR o0 a0 x1 x2 y176 (0 : Int32) _ _ _ hi0 hw (lv_sub hl [1, 2, 3, 0] rfl) h
  · have h := i_no c182 h
    refine lv_iconst (v := 1) hx hb dX9_jumpKind_21 (by decide) ?_
    refine lv_goto (tgt := 26) hx hb dX9_jumpKind_22 (by decide) ?_
    exact w_X9_jumpKind_26 hC hR o0 a0 x1 x2 y176 (1 : Int32) _ _ _ hi0 hw (lv_sub hl [1, 2, 3, 0] rfl) h
set_option maxHeartbeats 4000000 in
set_option maxRecDepth 100000 in
theorem k_X9_jumpKind {l : Launch} {G : va_G} {cA : Nat → ClassId} {S : sh} {D : dt} {ad : Nat → Nat} (sz : Nat) {o0 a0 : Nat} {x1 : Int32} {x2 : Int32} {r : Int32} (hi0 : Is S ad o0 a0 8) (h : f_X9_jumpKind S D o0 x1 x2 = some r) : Co l yX9_jumpKind (Cond.code yX9_jumpKind cX9_jumpKind 5 (some .int) :: tb0) 2 45 [.ref a0, .int x1, .int x2] G cA S D ad sz (some (.int r)) True D := by
  refine Met.ofW (cc := cX9_jumpKind) (maxL := 5) (ret := (some .int)) (by decide) rfl ?_
  intro p e s m args below meth c s₁ B hml hv
  obtain ⟨rfl, hsz, hP, hK, hD0, hT, hX⟩ := hv
  subst hsz
  have hts := atoms_spec (ws := Cond.code yX9_jumpKind cX9_jumpKind 5 (some .int) :: tb0) B.pre
  have hC : Cx RX9 cX9_jumpKind 5 (some .int) p s m _ meth c := ⟨B.exec, B.bytes, hml, findClass_of_methodNamed B.named, fun w q => hts w (List.mem_cons_of_mem _ q), B.returns, B.notSynchronized⟩
  have hw := Wd.entry hP hK hD0 hT hX
  have hl := lv_entry ([.ref a0, .int x1, .int x2]) (n := 5) (Nat.le_of_ble_eq_true rfl)
  rw [lg_entry_eq]
  exact w_X9_jumpKind_0 hC ⟨Nat.le_refl _, Nat.le_refl _⟩ o0 a0 x1 x2 _ _ _ hi0 hw hl h
set_option maxHeartbeats 4000000 in
set_option maxRecDepth 100000 in
theorem w_X9_loadKind_0 {r : Int32} (hC : Cx RX9 cX9_loadKind 2 (some .int) p s m args meth c) (hR : 0 ≤ R.frames ∧ 0 ≤ R.locals) : ∀ (o0 a0 : Nat) (x1 : Int32) (H : Heap) (locs : List Loc) (ls : Array Slot), Is S ad o0 a0 8 → Wd G cA S D ad A s H locs → lv_has ls 2 [(0, .ref a0), (1, .int x1)] → f_X9_loadKind S D o0 x1 = some r → W p l e R s m args below meth c H locs 0 0 (MQ below (Qn (some (.int r)) True (wpost G cA S D ad A) A) args s 0 0 A) (F0 m 0 ls []) := by
  obtain ⟨hx, hb, -⟩ := id hC
  intro o0 a0 x1 H locs ls hi0 hw hl h
  unfold f_X9_loadKind at h
  refine lv_aload_n hx hb dX9_loadKind_0 rfl (lv_at hl 0 rfl) ?_
  obtain ⟨o37, ho40, h⟩ := rq_i h
  refine r_getR hC hw kc_8 hi0 5 rfl lk_1077 dX9_loadKind_1 rfl ho40 (fun a38 hi39 => ?_)
  refine lv_iload_n hx hb dX9_loadKind_4 rfl (lv_at hl 1 rfl) ?_
  obtain ⟨hn41, h⟩ := ix_i h
  refine r_iald hC hw hi39 hn41 dX9_loadKind_5 ?_
  refine lv_if_ne (tgt := 31) hx hb dX9_loadKind_6 (by decide) (fun c42 => ?_) (fun c42 => ?_)
  · have h := i_no c42 h
    refine lv_iconst (v := 0) hx hb dX9_loadKind_31 (by decide) ?_
    cases h
    exact r_iret hC hw dX9_loadKind_32
  · have h := i_yes c42 h
    refine lv_aload_n hx hb dX9_loadKind_9 rfl (lv_at hl 0 rfl) ?_
    obtain ⟨o43, ho46, h⟩ := rq_i h
    refine r_getR hC hw kc_8 hi0 2 rfl lk_1074 dX9_loadKind_10 rfl ho46 (fun a44 hi45 => ?_)
    refine lv_iload_n hx hb dX9_loadKind_13 rfl (lv_at hl 1 rfl) ?_
    obtain ⟨hn47, h⟩ := ix_i h
    refine r_iald hC hw hi45 hn47 dX9_loadKind_14 ?_
    refine lv_bipush (v := 9) hx hb dX9_loadKind_15 (by decide) ?_
    refine lv_icmp_gt (tgt := 31) hx hb dX9_loadKind_17 (by decide) (fun c48 => ?_) (fun c48 => ?_)
    · have h := i_yes c48 h
      refine lv_iconst (v := 0) hx hb dX9_loadKind_31 (by decide) ?_
      cases h
      exact r_iret hC hw dX9_loadKind_32
    · have h := i_no c48 h
      refine lv_aload_n hx hb dX9_loadKind_20 rfl (lv_at hl 0 rfl) ?_
      obtain ⟨o49, ho52, h⟩ := rq_i h
      refine r_getR hC hw kc_8 hi0 3 rfl lk_1075 dX9_loadKind_21 rfl ho52 (fun a50 hi51 => ?_)
      refine lv_iload_n hx hb dX9_loadKind_24 rfl (lv_at hl 1 rfl) ?_
      obtain ⟨hn53, h⟩ := ix_i h
      refine r_iald hC hw hi51 hn53 dX9_loadKind_25 ?_
      refine lv_bipush (v := 11) hx hb dX9_loadKind_26 (by decide) ?_
      refine lv_icmp_lt (tgt := 33) hx hb dX9_loadKind_28 (by decide) (fun c54 => ?_) (fun c54 => ?_)
      · have h := i_yes c54 h
        refine lv_aload_n hx hb dX9_loadKind_33 rfl (lv_at hl 0 rfl) ?_
        obtain ⟨o55, ho58, h⟩ := rq_i h
        refine r_getR hC hw kc_8 hi0 1 rfl lk_1073 dX9_loadKind_34 rfl ho58 (fun a56 hi57 => ?_)
        refine lv_iload_n hx hb dX9_loadKind_37 rfl (lv_at hl 1 rfl) ?_
        obtain ⟨hn59, h⟩ := ix_i h
        refine r_iald hC hw hi57 hn59 dX9_loadKind_38 ?_
        refine lv_bipush (v := (-25)) hx hb dX9_loadKind_39 (by decide) ?_
        refine lv_iand hx hb dX9_loadKind_41 ?_
        refine lv_bipush (v := 97) hx hb dX9_loadKind_42 (by decide) ?_
        refine lv_icmp_ne (tgt := 52) hx hb dX9_loadKind_44 (by decide) (fun c60 => ?_) (fun c60 => ?_)
        · have h := i_no c60 h
          refine lv_aload_n hx hb dX9_loadKind_52 rfl (lv_at hl 0 rfl) ?_
          obtain ⟨o61, ho64, h⟩ := rq_i h
          refine r_getR hC hw kc_8 hi0 1 rfl lk_1073 dX9_loadKind_53 rfl ho64 (fun a62 hi63 => ?_)
          refine lv_iload_n hx hb dX9_loadKind_56 rfl (lv_at hl 1 rfl) ?_
          obtain ⟨hn65, h⟩ := ix_i h
          refine r_iald hC hw hi63 hn65 dX9_loadKind_57 ?_
          refine lv_bipush (v := (-25)) hx hb dX9_loadKind_58 (by decide) ?_
          refine lv_iand hx hb dX9_loadKind_60 ?_
          refine lv_sipush (v := 129) hx hb dX9_loadKind_61 (by decide) ?_
          refine lv_icmp_ne (tgt := 84) hx hb dX9_loadKind_64 (by decide) (fun c66 => ?_) (fun c66 => ?_)
          · have h := i_no c66 h
            refine lv_iconst (v := 0) hx hb dX9_loadKind_84 (by decide) ?_
            cases h
            exact r_iret hC hw dX9_loadKind_85
          · have h := i_yes c66 h
            refine lv_aload_n hx hb dX9_loadKind_67 rfl (lv_at hl 0 rfl) ?_
            obtain ⟨o67, ho70, h⟩ := rq_i h
            refine r_getR hC hw kc_8 hi0 1 rfl lk_1073 dX9_loadKind_68 rfl ho70 (fun a68 hi69 => ?_)
            refine lv_iload_n hx hb dX9_loadKind_71 rfl (lv_at hl 1 rfl) ?_
            obtain ⟨hn71, h⟩ := ix_i h
            refine r_iald hC hw hi69 hn71 dX9_loadKind_72 ?_
            refine lv_sipush (v := 153) hx hb dX9_loadKind_73 (by decide) ?_
            refine lv_icmp_eq (tgt := 84) hx hb dX9_loadKind_76 (by decide) (fun c72 => ?_) (fun c72 => ?_)
            · have h := i_yes c72 h
              refine lv_iconst (v := 0) hx hb dX9_loadKind_84 (by decide) ?_
              cases h
              exact r_iret hC hw dX9_loadKind_85
            · have h := i_no c72 h
              refine lv_bipush (v := 7) hx hb dX9_loadKind_79 (by decide) ?_
              refine lv_goto (tgt := 85) hx hb dX9_loadKind_81 (by decide) ?_
              cases h
              exact r_iret hC hw dX9_loadKind_85
        · have h := i_yes c60 h
          refine lv_bipush (v := 6) hx hb dX9_loadKind_47 (by decide) ?_
          refine lv_goto (tgt := 85) hx hb dX9_loadKind_49 (by decide) ?_
          cases h
          exact r_iret hC hw dX9_loadKind_85
      · have h := i_no c54 h
        refine lv_iconst (v := 0) hx hb dX9_loadKind_31 (by decide) ?_
        cases h
        exact r_iret hC hw dX9_loadKind_32
set_option maxHeartbeats 4000000 in
set_option maxRecDepth 100000 in
theorem k_X9_loadKind {l : Launch} {G : va_G} {cA : Nat → ClassId} {S : sh} {D : dt} {ad : Nat → Nat} (sz : Nat) {o0 a0 : Nat} {x1 : Int32} {r : Int32} (hi0 : Is S ad o0 a0 8) (h : f_X9_loadKind S D o0 x1 = some r) : Co l yX9_loadKind (Cond.code yX9_loadKind cX9_loadKind 2 (some .int) :: tb0) 0 0 [.ref a0, .int x1] G cA S D ad sz (some (.int r)) True D := by
  refine Met.ofW (cc := cX9_loadKind) (maxL := 2) (ret := (some .int)) (by decide) rfl ?_
  intro p e s m args below meth c s₁ B hml hv
  obtain ⟨rfl, hsz, hP, hK, hD0, hT, hX⟩ := hv
  subst hsz
  have hts := atoms_spec (ws := Cond.code yX9_loadKind cX9_loadKind 2 (some .int) :: tb0) B.pre
  have hC : Cx RX9 cX9_loadKind 2 (some .int) p s m _ meth c := ⟨B.exec, B.bytes, hml, findClass_of_methodNamed B.named, fun w q => hts w (List.mem_cons_of_mem _ q), B.returns, B.notSynchronized⟩
  have hw := Wd.entry hP hK hD0 hT hX
  have hl := lv_entry ([.ref a0, .int x1]) (n := 2) (Nat.le_of_ble_eq_true rfl)
  rw [lg_entry_eq]
  exact w_X9_loadKind_0 hC ⟨Nat.le_refl _, Nat.le_refl _⟩ o0 a0 x1 _ _ _ hi0 hw hl h
set_option maxHeartbeats 4000000 in
set_option maxRecDepth 100000 in
theorem w_X9_putKind_151 {r : Int32} (hC : Cx RX9 cX9_putKind 3 (some .int) p s m args meth c) (hR : 0 ≤ R.frames ∧ 0 ≤ R.locals) : ∀ (o0 a0 : Nat) (x1 : Int32) (H : Heap) (locs : List Loc) (ls : Array Slot), Is S ad o0 a0 8 → Wd G cA S D ad A s H locs → lv_has ls 3 [(0, .ref a0), (1, .int x1)] → f_X9_putKind_151 S D o0 x1 = some r → W p l e R s m args below meth c H locs 0 0 (MQ below (Qn (some (.int r)) True (wpost G cA S D ad A) A) args s 0 0 A) (F0 m 151 ls []) := by
  obtain ⟨hx, hb, -⟩ := id hC
  intro o0 a0 x1 H locs ls hi0 hw hl h
  unfold f_X9_putKind_151 at h
  refine lv_aload_n hx hb dX9_putKind_151 rfl (lv_at hl 0 rfl) ?_
  obtain ⟨o59, ho62, h⟩ := rq_i h
  refine r_getR hC hw kc_8 hi0 3 rfl lk_1075 dX9_putKind_152 rfl ho62 (fun a60 hi61 => ?_)
  refine lv_iload_n hx hb dX9_putKind_155 rfl (lv_at hl 1 rfl) ?_
  obtain ⟨hn63, h⟩ := ix_i h
  refine r_iald hC hw hi61 hn63 dX9_putKind_156 ?_
  refine lv_bipush (v := 10) hx hb dX9_putKind_157 (by decide) ?_
  refine lv_icmp_ge (tgt := 167) hx hb dX9_putKind_159 (by decide) (fun c64 => ?_) (fun c64 => ?_)
  · have h := i_yes c64 h
    refine lv_iconst (v := 0) hx hb dX9_putKind_167 (by decide) ?_
    cases h
    exact r_iret hC hw dX9_putKind_168
  · have h := i_no c64 h
    refine lv_bipush (v := 10) hx hb dX9_putKind_162 (by decide) ?_
    refine lv_goto (tgt := 168) hx hb dX9_putKind_164 (by decide) ?_
    cases h
    exact r_iret hC hw dX9_putKind_168
set_option maxHeartbeats 4000000 in
set_option maxRecDepth 100000 in
theorem w_X9_putKind_80 {r : Int32} (hC : Cx RX9 cX9_putKind 3 (some .int) p s m args meth c) (hR : 0 ≤ R.frames ∧ 0 ≤ R.locals) : ∀ (o0 a0 : Nat) (x1 : Int32) (H : Heap) (locs : List Loc) (ls : Array Slot), Is S ad o0 a0 8 → Wd G cA S D ad A s H locs → lv_has ls 3 [(0, .ref a0), (1, .int x1)] → f_X9_putKind_80 S D o0 x1 = some r → W p l e R s m args below meth c H locs 0 0 (MQ below (Qn (some (.int r)) True (wpost G cA S D ad A) A) args s 0 0 A) (F0 m 80 ls []) := by
  obtain ⟨hx, hb, -⟩ := id hC
  intro o0 a0 x1 H locs ls hi0 hw hl h
  unfold f_X9_putKind_80 at h
  refine lv_aload_n hx hb dX9_putKind_80 rfl (lv_at hl 0 rfl) ?_
  obtain ⟨o65, ho68, h⟩ := rq_i h
  refine r_getR hC hw kc_8 hi0 5 rfl lk_1077 dX9_putKind_81 rfl ho68 (fun a66 hi67 => ?_)
  refine lv_iload_n hx hb dX9_putKind_84 rfl (lv_at hl 1 rfl) ?_
  obtain ⟨hn69, h⟩ := ix_i h
  refine r_iald hC hw hi67 hn69 dX9_putKind_85 ?_
  refine lv_topi (fun y70 ey70 => ?_)
  have h := nm_i h y70 ey70
  refine lv_istore_n (lv' := [(2, .int y70), (0, .ref a0), (1, .int x1)]) hx hb dX9_putKind_86 rfl hl (by decide) rfl (fun ls hl => ?_)
  refine lv_iload_n hx hb dX9_putKind_87 rfl (lv_at hl 0 rfl) ?_
  refine lv_sipush (v := 241) hx hb dX9_putKind_88 (by decide) ?_
  refine lv_icmp_eq (tgt := 117) hx hb dX9_putKind_91 (by decide) (fun c71 => ?_) (fun c71 => ?_)
  · have h := i_yes c71 h
    refine lv_bipush (v := 10) hx hb dX9_putKind_117 (by decide) ?_
    cases h
    exact r_iret hC hw dX9_putKind_119
  · have h := i_no c71 h
    refine lv_iload_n hx hb dX9_putKind_94 rfl (lv_at hl 0 rfl) ?_
    refine lv_if_eq (tgt := 117) hx hb dX9_putKind_95 (by decide) (fun c72 => ?_) (fun c72 => ?_)
    · have h := i_yes c72 h
      refine lv_bipush (v := 10) hx hb dX9_putKind_117 (by decide) ?_
      cases h
      exact r_iret hC hw dX9_putKind_119
    · have h := i_no c72 h
      refine lv_iload_n hx hb dX9_putKind_98 rfl (lv_at hl 0 rfl) ?_
      refine lv_bipush (v := 64) hx hb dX9_putKind_99 (by decide) ?_
      refine lv_icmp_eq (tgt := 117) hx hb dX9_putKind_101 (by decide) (fun c73 => ?_) (fun c73 => ?_)
      · have h := i_yes c73 h
        refine lv_bipush (v := 10) hx hb dX9_putKind_117 (by decide) ?_
        cases h
        exact r_iret hC hw dX9_putKind_119
      · have h := i_no c73 h
        refine lv_iload_n hx hb dX9_putKind_104 rfl (lv_at hl 0 rfl) ?_
        refine lv_bipush (v := 80) hx hb dX9_putKind_105 (by decide) ?_
        refine lv_icmp_eq (tgt := 117) hx hb dX9_putKind_107 (by decide) (fun c74 => ?_) (fun c74 => ?_)
        · have h := i_yes c74 h
          refine lv_bipush (v := 10) hx hb dX9_putKind_117 (by decide) ?_
          cases h
          exact r_iret hC hw dX9_putKind_119
        · have h := i_no c74 h
          refine lv_iload_n hx hb dX9_putKind_110 rfl (lv_at hl 0 rfl) ?_
          refine lv_sipush (v := 160) hx hb dX9_putKind_111 (by decide) ?_
          refine lv_icmp_ne (tgt := 120) hx hb dX9_putKind_114 (by decide) (fun c75 => ?_) (fun c75 => ?_)
          · have h := i_no c75 h
            refine lv_iload_n hx hb dX9_putKind_120 rfl (lv_at hl 0 rfl) ?_
            refine lv_iconst (v := 1) hx hb dX9_putKind_121 (by decide) ?_
            refine lv_icmp_eq (tgt := 151) hx hb dX9_putKind_122 (by decide) (fun c76 => ?_) (fun c76 => ?_)
            · have h := i_yes c76 h
              exact w_X9_putKind_151 hC hR o0 a0 x1 _ _ _ hi0 hw (lv_sub hl [1, 2] rfl) h
            · have h := i_no c76 h
              refine lv_iload_n hx hb dX9_putKind_125 rfl (lv_at hl 0 rfl) ?_
              refine lv_bipush (v := 65) hx hb dX9_putKind_126 (by decide) ?_
              refine lv_icmp_eq (tgt := 151) hx hb dX9_putKind_128 (by decide) (fun c77 => ?_) (fun c77 => ?_)
              · have h := i_yes c77 h
                exact w_X9_putKind_151 hC hR o0 a0 x1 _ _ _ hi0 hw (lv_sub hl [1, 2] rfl) h
              · have h := i_no c77 h
                refine lv_iload_n hx hb dX9_putKind_131 rfl (lv_at hl 0 rfl) ?_
                refine lv_bipush (v := 81) hx hb dX9_putKind_132 (by decide) ?_
                refine lv_icmp_eq (tgt := 151) hx hb dX9_putKind_134 (by decide) (fun c78 => ?_) (fun c78 => ?_)
                · have h := i_yes c78 h
                  exact w_X9_putKind_151 hC hR o0 a0 x1 _ _ _ hi0 hw (lv_sub hl [1, 2] rfl) h
                · have h := i_no c78 h
                  refine lv_iload_n hx hb dX9_putKind_137 rfl (lv_at hl 0 rfl) ?_
                  refine lv_sipush (v := 161) hx hb dX9_putKind_138 (by decide) ?_
                  refine lv_icmp_eq (tgt := 151) hx hb dX9_putKind_141 (by decide) (fun c79 => ?_) (fun c79 => ?_)
                  · have h := i_yes c79 h
                    exact w_X9_putKind_151 hC hR o0 a0 x1 _ _ _ hi0 hw (lv_sub hl [1, 2] rfl) h
                  · have h := i_no c79 h
                    refine lv_iload_n hx hb dX9_putKind_144 rfl (lv_at hl 0 rfl) ?_
                    refine lv_sipush (v := 225) hx hb dX9_putKind_145 (by decide) ?_
                    refine lv_icmp_ne (tgt := 167) hx hb dX9_putKind_148 (by decide) (fun c80 => ?_) (fun c80 => ?_)
                    · have h := i_no c80 h
                      refine lv_iconst (v := 0) hx hb dX9_putKind_167 (by decide) ?_
                      cases h
                      exact r_iret hC hw dX9_putKind_168
                    · have h := i_yes c80 h
                      exact w_X9_putKind_151 hC hR o0 a0 x1 _ _ _ hi0 hw (lv_sub hl [1, 2] rfl) h
          · have h := i_yes c75 h
            refine lv_bipush (v := 10) hx hb dX9_putKind_117 (by decide) ?_
            cases h
            exact r_iret hC hw dX9_putKind_119
set_option maxHeartbeats 4000000 in
set_option maxRecDepth 100000 in
theorem w_X9_putKind_0 {r : Int32} (hC : Cx RX9 cX9_putKind 3 (some .int) p s m args meth c) (hR : 0 ≤ R.frames ∧ 0 ≤ R.locals) : ∀ (o0 a0 : Nat) (x1 : Int32) (H : Heap) (locs : List Loc) (ls : Array Slot), Is S ad o0 a0 8 → Wd G cA S D ad A s H locs → lv_has ls 3 [(0, .ref a0), (1, .int x1)] → f_X9_putKind S D o0 x1 = some r → W p l e R s m args below meth c H locs 0 0 (MQ below (Qn (some (.int r)) True (wpost G cA S D ad A) A) args s 0 0 A) (F0 m 0 ls []) := by
  obtain ⟨hx, hb, -⟩ := id hC
  intro o0 a0 x1 H locs ls hi0 hw hl h
  unfold f_X9_putKind at h
  refine lv_aload_n hx hb dX9_putKind_0 rfl (lv_at hl 0 rfl) ?_
  obtain ⟨o81, ho84, h⟩ := rq_i h
  refine r_getR hC hw kc_8 hi0 2 rfl lk_1074 dX9_putKind_1 rfl ho84 (fun a82 hi83 => ?_)
  refine lv_iload_n hx hb dX9_putKind_4 rfl (lv_at hl 1 rfl) ?_
  obtain ⟨hn85, h⟩ := ix_i h
  refine r_iald hC hw hi83 hn85 dX9_putKind_5 ?_
  refine lv_bipush (v := 11) hx hb dX9_putKind_6 (by decide) ?_
  refine lv_icmp_ge (tgt := 22) hx hb dX9_putKind_8 (by decide) (fun c86 => ?_) (fun c86 => ?_)
  · have h := i_yes c86 h
    refine lv_iconst (v := 0) hx hb dX9_putKind_22 (by decide) ?_
    cases h
    exact r_iret hC hw dX9_putKind_23
  · have h := i_no c86 h
    refine lv_aload_n hx hb dX9_putKind_11 rfl (lv_at hl 0 rfl) ?_
    obtain ⟨o87, ho90, h⟩ := rq_i h
    refine r_getR hC hw kc_8 hi0 3 rfl lk_1075 dX9_putKind_12 rfl ho90 (fun a88 hi89 => ?_)
    refine lv_iload_n hx hb dX9_putKind_15 rfl (lv_at hl 1 rfl) ?_
    obtain ⟨hn91, h⟩ := ix_i h
    refine r_iald hC hw hi89 hn91 dX9_putKind_16 ?_
    refine lv_bipush (v := 11) hx hb dX9_putKind_17 (by decide) ?_
    refine lv_icmp_lt (tgt := 24) hx hb dX9_putKind_19 (by decide) (fun c92 => ?_) (fun c92 => ?_)
    · have h := i_yes c92 h
      refine lv_aload_n hx hb dX9_putKind_24 rfl (lv_at hl 0 rfl) ?_
      obtain ⟨o93, ho96, h⟩ := rq_i h
      refine r_getR hC hw kc_8 hi0 1 rfl lk_1073 dX9_putKind_25 rfl ho96 (fun a94 hi95 => ?_)
      refine lv_iload_n hx hb dX9_putKind_28 rfl (lv_at hl 1 rfl) ?_
      obtain ⟨hn97, h⟩ := ix_i h
      refine r_iald hC hw hi95 hn97 dX9_putKind_29 ?_
      refine lv_bipush (v := (-25)) hx hb dX9_putKind_30 (by decide) ?_
      refine lv_iand hx hb dX9_putKind_32 ?_
      refine lv_bipush (v := 99) hx hb dX9_putKind_33 (by decide) ?_
      refine lv_icmp_ne (tgt := 54) hx hb dX9_putKind_35 (by decide) (fun c98 => ?_) (fun c98 => ?_)
      · have h := i_no c98 h
        refine lv_aload_n hx hb dX9_putKind_54 rfl (lv_at hl 0 rfl) ?_
        obtain ⟨o99, ho102, h⟩ := rq_i h
        refine r_getR hC hw kc_8 hi0 1 rfl lk_1073 dX9_putKind_55 rfl ho102 (fun a100 hi101 => ?_)
        refine lv_iload_n hx hb dX9_putKind_58 rfl (lv_at hl 1 rfl) ?_
        obtain ⟨hn103, h⟩ := ix_i h
        refine r_iald hC hw hi101 hn103 dX9_putKind_59 ?_
        refine lv_sipush (v := 195) hx hb dX9_putKind_60 (by decide) ?_
        refine lv_icmp_eq (tgt := 80) hx hb dX9_putKind_63 (by decide) (fun c104 => ?_) (fun c104 => ?_)
        · have h := i_yes c104 h
          exact w_X9_putKind_80 hC hR o0 a0 x1 _ _ _ hi0 hw (lv_sub hl [0, 1] rfl) h
        · have h := i_no c104 h
          refine lv_aload_n hx hb dX9_putKind_66 rfl (lv_at hl 0 rfl) ?_
          obtain ⟨o105, ho108, h⟩ := rq_i h
          refine r_getR hC hw kc_8 hi0 1 rfl lk_1073 dX9_putKind_67 rfl ho108 (fun a106 hi107 => ?_)
          refine lv_iload_n hx hb dX9_putKind_70 rfl (lv_at hl 1 rfl) ?_
          obtain ⟨hn109, h⟩ := ix_i h
          refine r_iald hC hw hi107 hn109 dX9_putKind_71 ?_
          refine lv_sipush (v := 219) hx hb dX9_putKind_72 (by decide) ?_
          refine lv_icmp_eq (tgt := 80) hx hb dX9_putKind_75 (by decide) (fun c110 => ?_) (fun c110 => ?_)
          · have h := i_yes c110 h
            exact w_X9_putKind_80 hC hR o0 a0 x1 _ _ _ hi0 hw (lv_sub hl [0, 1] rfl) h
          · have h := i_no c110 h
            refine lv_iconst (v := 0) hx hb dX9_putKind_78 (by decide) ?_
            cases h
            exact r_iret hC hw dX9_putKind_79
      · have h := i_yes c98 h
        refine lv_aload_n hx hb dX9_putKind_38 rfl (lv_at hl 0 rfl) ?_
        obtain ⟨o111, ho114, h⟩ := rq_i h
        refine r_getR hC hw kc_8 hi0 5 rfl lk_1077 dX9_putKind_39 rfl ho114 (fun a112 hi113 => ?_)
        refine lv_iload_n hx hb dX9_putKind_42 rfl (lv_at hl 1 rfl) ?_
        obtain ⟨hn115, h⟩ := ix_i h
        refine r_iald hC hw hi113 hn115 dX9_putKind_43 ?_
        refine lv_if_ne (tgt := 52) hx hb dX9_putKind_44 (by decide) (fun c116 => ?_) (fun c116 => ?_)
        · have h := i_no c116 h
          refine lv_iconst (v := 0) hx hb dX9_putKind_52 (by decide) ?_
          cases h
          exact r_iret hC hw dX9_putKind_53
        · have h := i_yes c116 h
          refine lv_bipush (v := 9) hx hb dX9_putKind_47 (by decide) ?_
          refine lv_goto (tgt := 53) hx hb dX9_putKind_49 (by decide) ?_
          cases h
          exact r_iret hC hw dX9_putKind_53
    · have h := i_no c92 h
      refine lv_iconst (v := 0) hx hb dX9_putKind_22 (by decide) ?_
      cases h
      exact r_iret hC hw dX9_putKind_23
set_option maxHeartbeats 4000000 in
set_option maxRecDepth 100000 in
theorem k_X9_putKind {l : Launch} {G : va_G} {cA : Nat → ClassId} {S : sh} {D : dt} {ad : Nat → Nat} (sz : Nat) {o0 a0 : Nat} {x1 : Int32} {r : Int32} (hi0 : Is S ad o0 a0 8) (h : f_X9_putKind S D o0 x1 = some r) : Co l yX9_putKind (Cond.code yX9_putKind cX9_putKind 3 (some .int) :: tb0) 0 0 [.ref a0, .int x1] G cA S D ad sz (some (.int r)) True D := by
  refine Met.ofW (cc := cX9_putKind) (maxL := 3) (ret := (some .int)) (by decide) rfl ?_
  intro p e s m args below meth c s₁ B hml hv
  obtain ⟨rfl, hsz, hP, hK, hD0, hT, hX⟩ := hv
  subst hsz
  have hts := atoms_spec (ws := Cond.code yX9_putKind cX9_putKind 3 (some .int) :: tb0) B.pre
  have hC : Cx RX9 cX9_putKind 3 (some .int) p s m _ meth c := ⟨B.exec, B.bytes, hml, findClass_of_methodNamed B.named, fun w q => hts w (List.mem_cons_of_mem _ q), B.returns, B.notSynchronized⟩
  have hw := Wd.entry hP hK hD0 hT hX
  have hl := lv_entry ([.ref a0, .int x1]) (n := 3) (Nat.le_of_ble_eq_true rfl)
  rw [lg_entry_eq]
  exact w_X9_putKind_0 hC ⟨Nat.le_refl _, Nat.le_refl _⟩ o0 a0 x1 _ _ _ hi0 hw hl h
set_option maxHeartbeats 4000000 in
set_option maxRecDepth 100000 in
theorem w_X9_kindOf_65 {r : Int32} (hC : Cx RX9 cX9_kindOf 3 (some .int) p s m args meth c) (hR : 3 ≤ R.frames ∧ 69 ≤ R.locals) : ∀ (os0 as0 : Nat) (xs1 : Int32) (xs2 : Int32) (H : Heap) (locs : List Loc) (ls : Array Slot), Is S ad os0 as0 8 → Wd G cA S D ad A s H locs → lv_has ls 3 [] → f_X9_kindOf_65 S D os0 xs1 xs2 = some r → W p l e R s m args below meth c H locs 0 0 (MQ below (Qn (some (.int r)) True (wpost G cA S D ad A) A) args s 0 0 A) (F0 m 65 ls [.int xs2, .int xs1, .ref as0]) := by
  obtain ⟨hx, hb, -⟩ := id hC
  intro os0 as0 xs1 xs2 H locs ls his0 hw hl h
  unfold f_X9_kindOf_65 at h
  obtain ⟨r68, hq67, h⟩ := pq_i h
  refine r_cV (st' := [.int r68]) [.int xs1, .int xs2] [] hC hw kc_8 his0 (k_X9_isRegister _ his0 hq67) mk_X9_isRegister lk_1316 ⟨Nat.le_trans (by decide) hR.1, Nat.le_trans (by decide) hR.2⟩ ⟨Nat.zero_le _, Nat.zero_le _⟩ rfl hl.1 rfl rfl (Nat.le_of_ble_eq_true rfl) dX9_kindOf_65 (fun hP H locs hw => ?_)
  refine lv_if_eq (tgt := 75) hx hb dX9_kindOf_68 (by decide) (fun c69 => ?_) (fun c69 => ?_)
  · have h := i_yes c69 h
    refine lv_iconst (v := 0) hx hb dX9_kindOf_75 (by decide) ?_
    cases h
    exact r_iret hC hw dX9_kindOf_76
  · have h := i_no c69 h
    refine lv_iconst (v := 1) hx hb dX9_kindOf_71 (by decide) ?_
    refine lv_goto (tgt := 76) hx hb dX9_kindOf_72 (by decide) ?_
    cases h
    exact r_iret hC hw dX9_kindOf_76
set_option maxHeartbeats 4000000 in
set_option maxRecDepth 100000 in
theorem w_X9_kindOf_52 {r : Int32} (hC : Cx RX9 cX9_kindOf 3 (some .int) p s m args meth c) (hR : 3 ≤ R.frames ∧ 69 ≤ R.locals) : ∀ (o0 a0 : Nat) (x1 : Int32) (x2 : Int32) (H : Heap) (locs : List Loc) (ls : Array Slot), Is S ad o0 a0 8 → Wd G cA S D ad A s H locs → lv_has ls 3 [(0, .ref a0), (1, .int x1), (2, .int x2)] → f_X9_kindOf_52 S D o0 x1 x2 = some r → W p l e R s m args below meth c H locs 0 0 (MQ below (Qn (some (.int r)) True (wpost G cA S D ad A) A) args s 0 0 A) (F0 m 52 ls []) := by
  obtain ⟨hx, hb, -⟩ := id hC
  intro o0 a0 x1 x2 H locs ls hi0 hw hl h
  unfold f_X9_kindOf_52 at h
  refine lv_aload_n hx hb dX9_kindOf_52 rfl (lv_at hl 0 rfl) ?_
  refine lv_iload_n hx hb dX9_kindOf_53 rfl (lv_at hl 1 rfl) ?_
  refine lv_iload_n hx hb dX9_kindOf_54 rfl (lv_at hl 2 rfl) ?_
  refine lv_bipush (v := 7) hx hb dX9_kindOf_55 (by decide) ?_
  refine lv_icmp_ne (tgt := 64) hx hb dX9_kindOf_57 (by decide) (fun c70 => ?_) (fun c70 => ?_)
  · have h := i_no c70 h
    refine lv_iconst (v := 0) hx hb dX9_kindOf_64 (by decide) ?_
    exact w_X9_kindOf_65 hC hR o0 a0 x1 (0 : Int32) _ _ _ hi0 hw (lv_sub hl [] rfl) h
  · have h := i_yes c70 h
    refine lv_iconst (v := 1) hx hb dX9_kindOf_60 (by decide) ?_
    refine lv_goto (tgt := 65) hx hb dX9_kindOf_61 (by decide) ?_
    exact w_X9_kindOf_65 hC hR o0 a0 x1 (1 : Int32) _ _ _ hi0 hw (lv_sub hl [] rfl) h
set_option maxHeartbeats 4000000 in
set_option maxRecDepth 100000 in
theorem w_X9_kindOf_89 {r : Int32} (hC : Cx RX9 cX9_kindOf 3 (some .int) p s m args meth c) (hR : 3 ≤ R.frames ∧ 69 ≤ R.locals) : ∀ (os0 as0 : Nat) (xs1 : Int32) (xs2 : Int32) (H : Heap) (locs : List Loc) (ls : Array Slot), Is S ad os0 as0 8 → Wd G cA S D ad A s H locs → lv_has ls 3 [] → f_X9_kindOf_89 S D os0 xs1 xs2 = some r → W p l e R s m args below meth c H locs 0 0 (MQ below (Qn (some (.int r)) True (wpost G cA S D ad A) A) args s 0 0 A) (F0 m 89 ls [.int xs2, .int xs1, .ref as0]) := by
  obtain ⟨hx, hb, -⟩ := id hC
  intro os0 as0 xs1 xs2 H locs ls his0 hw hl h
  unfold f_X9_kindOf_89 at h
  obtain ⟨r72, hq71, h⟩ := pq_i h
  refine r_cV (st' := [.int r72]) [.int xs1, .int xs2] [] hC hw kc_8 his0 (k_X9_jumpKind _ his0 hq71) mk_X9_jumpKind lk_1320 ⟨Nat.le_trans (by decide) hR.1, Nat.le_trans (by decide) hR.2⟩ ⟨Nat.zero_le _, Nat.zero_le _⟩ rfl hl.1 rfl rfl (Nat.le_of_ble_eq_true rfl) dX9_kindOf_89 (fun hP H locs hw => ?_)
  cases h
  exact r_iret hC hw dX9_kindOf_92
set_option maxHeartbeats 4000000 in
set_option maxRecDepth 100000 in
theorem w_X9_kindOf_77 {r : Int32} (hC : Cx RX9 cX9_kindOf 3 (some .int) p s m args meth c) (hR : 3 ≤ R.frames ∧ 69 ≤ R.locals) : ∀ (o0 a0 : Nat) (x1 : Int32) (x2 : Int32) (H : Heap) (locs : List Loc) (ls : Array Slot), Is S ad o0 a0 8 → Wd G cA S D ad A s H locs → lv_has ls 3 [(0, .ref a0), (1, .int x1), (2, .int x2)] → f_X9_kindOf_77 S D o0 x1 x2 = some r → W p l e R s m args below meth c H locs 0 0 (MQ below (Qn (some (.int r)) True (wpost G cA S D ad A) A) args s 0 0 A) (F0 m 77 ls []) := by
  obtain ⟨hx, hb, -⟩ := id hC
  intro o0 a0 x1 x2 H locs ls hi0 hw hl h
  unfold f_X9_kindOf_77 at h
  refine lv_aload_n hx hb dX9_kindOf_77 rfl (lv_at hl 0 rfl) ?_
  refine lv_iload_n hx hb dX9_kindOf_78 rfl (lv_at hl 1 rfl) ?_
  refine lv_iload_n hx hb dX9_kindOf_79 rfl (lv_at hl 2 rfl) ?_
  refine lv_iconst (v := 5) hx hb dX9_kindOf_80 (by decide) ?_
  refine lv_icmp_ne (tgt := 88) hx hb dX9_kindOf_81 (by decide) (fun c73 => ?_) (fun c73 => ?_)
  · have h := i_no c73 h
    refine lv_iconst (v := 0) hx hb dX9_kindOf_88 (by decide) ?_
    exact w_X9_kindOf_89 hC hR o0 a0 x1 (0 : Int32) _ _ _ hi0 hw (lv_sub hl [] rfl) h
  · have h := i_yes c73 h
    refine lv_iconst (v := 1) hx hb dX9_kindOf_84 (by decide) ?_
    refine lv_goto (tgt := 89) hx hb dX9_kindOf_85 (by decide) ?_
    exact w_X9_kindOf_89 hC hR o0 a0 x1 (1 : Int32) _ _ _ hi0 hw (lv_sub hl [] rfl) h
set_option maxHeartbeats 4000000 in
set_option maxRecDepth 100000 in
theorem w_X9_kindOf_0 {r : Int32} (hC : Cx RX9 cX9_kindOf 3 (some .int) p s m args meth c) (hR : 3 ≤ R.frames ∧ 69 ≤ R.locals) : ∀ (o0 a0 : Nat) (x1 : Int32) (H : Heap) (locs : List Loc) (ls : Array Slot), Is S ad o0 a0 8 → Wd G cA S D ad A s H locs → lv_has ls 3 [(0, .ref a0), (1, .int x1)] → f_X9_kindOf S D o0 x1 = some r → W p l e R s m args below meth c H locs 0 0 (MQ below (Qn (some (.int r)) True (wpost G cA S D ad A) A) args s 0 0 A) (F0 m 0 ls []) := by
  obtain ⟨hx, hb, -⟩ := id hC
  intro o0 a0 x1 H locs ls hi0 hw hl h
  unfold f_X9_kindOf at h
  refine lv_aload_n hx hb dX9_kindOf_0 rfl (lv_at hl 0 rfl) ?_
  obtain ⟨o74, ho77, h⟩ := rq_i h
  refine r_getR hC hw kc_8 hi0 1 rfl lk_1073 dX9_kindOf_1 rfl ho77 (fun a75 hi76 => ?_)
  refine lv_iload_n hx hb dX9_kindOf_4 rfl (lv_at hl 1 rfl) ?_
  obtain ⟨hn78, h⟩ := ix_i h
  refine r_iald hC hw hi76 hn78 dX9_kindOf_5 ?_
  refine lv_bipush (v := 7) hx hb dX9_kindOf_6 (by decide) ?_
  refine lv_iand hx hb dX9_kindOf_8 ?_
  refine lv_topi (fun y79 ey79 => ?_)
  have h := nm_i h y79 ey79
  refine lv_istore_n (lv' := [(2, .int y79), (0, .ref a0), (1, .int x1)]) hx hb dX9_kindOf_9 rfl hl (by decide) rfl (fun ls hl => ?_)
  refine lv_iload_n hx hb dX9_kindOf_10 rfl (lv_at hl 0 rfl) ?_
  by_cases c80 : y79 = 1
  · have h := i_yes c80 h
    refine lv_tableIn (off := 82) (tgt := 93) hx hb dX9_kindOf_11 (by rw [c80]; decide) (by rw [c80]; decide) (by rw [c80] <;> rfl) (by decide) ?_
    refine lv_aload_n hx hb dX9_kindOf_93 rfl (lv_at hl 1 rfl) ?_
    refine lv_iload_n hx hb dX9_kindOf_94 rfl (lv_at hl 2 rfl) ?_
    obtain ⟨r82, hq81, h⟩ := pq_i h
    refine r_cV (st' := [.int r82]) [.int x1] [] hC hw kc_8 hi0 (k_X9_loadKind _ hi0 hq81) mk_X9_loadKind lk_1328 ⟨Nat.le_trans (by decide) hR.1, Nat.le_trans (by decide) hR.2⟩ ⟨Nat.zero_le _, Nat.zero_le _⟩ rfl hl.1 rfl rfl (Nat.le_of_ble_eq_true rfl) dX9_kindOf_95 (fun hP H locs hw => ?_)
    cases h
    exact r_iret hC hw dX9_kindOf_98
  have h := i_no c80 h
  by_cases c83 : y79 = 2
  · have h := i_yes c83 h
    refine lv_tableIn (off := 88) (tgt := 99) hx hb dX9_kindOf_11 (by rw [c83]; decide) (by rw [c83]; decide) (by rw [c83] <;> rfl) (by decide) ?_
    refine lv_aload_n hx hb dX9_kindOf_99 rfl (lv_at hl 1 rfl) ?_
    obtain ⟨o84, ho87, h⟩ := rq_i h
    refine r_getR hC hw kc_8 hi0 1 rfl lk_1073 dX9_kindOf_100 rfl ho87 (fun a85 hi86 => ?_)
    refine lv_iload_n hx hb dX9_kindOf_103 rfl (lv_at hl 2 rfl) ?_
    obtain ⟨hn88, h⟩ := ix_i h
    refine r_iald hC hw hi86 hn88 dX9_kindOf_104 ?_
    refine lv_bipush (v := (-25)) hx hb dX9_kindOf_105 (by decide) ?_
    refine lv_iand hx hb dX9_kindOf_107 ?_
    refine lv_bipush (v := 98) hx hb dX9_kindOf_108 (by decide) ?_
    refine lv_icmp_ne (tgt := 138) hx hb dX9_kindOf_110 (by decide) (fun c89 => ?_) (fun c89 => ?_)
    · have h := i_no c89 h
      refine lv_iconst (v := 0) hx hb dX9_kindOf_138 (by decide) ?_
      cases h
      exact r_iret hC hw dX9_kindOf_139
    · have h := i_yes c89 h
      refine lv_aload_n hx hb dX9_kindOf_113 rfl (lv_at hl 1 rfl) ?_
      obtain ⟨o90, ho93, h⟩ := rq_i h
      refine r_getR hC hw kc_8 hi0 3 rfl lk_1075 dX9_kindOf_114 rfl ho93 (fun a91 hi92 => ?_)
      refine lv_iload_n hx hb dX9_kindOf_117 rfl (lv_at hl 2 rfl) ?_
      obtain ⟨hn94, h⟩ := ix_i h
      refine r_iald hC hw hi92 hn94 dX9_kindOf_118 ?_
      refine lv_if_ne (tgt := 138) hx hb dX9_kindOf_119 (by decide) (fun c95 => ?_) (fun c95 => ?_)
      · have h := i_no c95 h
        refine lv_iconst (v := 0) hx hb dX9_kindOf_138 (by decide) ?_
        cases h
        exact r_iret hC hw dX9_kindOf_139
      · have h := i_yes c95 h
        refine lv_aload_n hx hb dX9_kindOf_122 rfl (lv_at hl 1 rfl) ?_
        obtain ⟨o96, ho99, h⟩ := rq_i h
        refine r_getR hC hw kc_8 hi0 2 rfl lk_1074 dX9_kindOf_123 rfl ho99 (fun a97 hi98 => ?_)
        refine lv_iload_n hx hb dX9_kindOf_126 rfl (lv_at hl 2 rfl) ?_
        obtain ⟨hn100, h⟩ := ix_i h
        refine r_iald hC hw hi98 hn100 dX9_kindOf_127 ?_
        refine lv_bipush (v := 11) hx hb dX9_kindOf_128 (by decide) ?_
        refine lv_icmp_ge (tgt := 138) hx hb dX9_kindOf_130 (by decide) (fun c101 => ?_) (fun c101 => ?_)
        · have h := i_yes c101 h
          refine lv_iconst (v := 0) hx hb dX9_kindOf_138 (by decide) ?_
          cases h
          exact r_iret hC hw dX9_kindOf_139
        · have h := i_no c101 h
          refine lv_bipush (v := 8) hx hb dX9_kindOf_133 (by decide) ?_
          refine lv_goto (tgt := 139) hx hb dX9_kindOf_135 (by decide) ?_
          cases h
          exact r_iret hC hw dX9_kindOf_139
  have h := i_no c83 h
  by_cases c102 : y79 = 3
  · have h := i_yes c102 h
    refine lv_tableIn (off := 129) (tgt := 140) hx hb dX9_kindOf_11 (by rw [c102]; decide) (by rw [c102]; decide) (by rw [c102] <;> rfl) (by decide) ?_
    refine lv_aload_n hx hb dX9_kindOf_140 rfl (lv_at hl 1 rfl) ?_
    refine lv_iload_n hx hb dX9_kindOf_141 rfl (lv_at hl 2 rfl) ?_
    obtain ⟨r104, hq103, h⟩ := pq_i h
    refine r_cV (st' := [.int r104]) [.int x1] [] hC hw kc_8 hi0 (k_X9_putKind _ hi0 hq103) mk_X9_putKind lk_1332 ⟨Nat.le_trans (by decide) hR.1, Nat.le_trans (by decide) hR.2⟩ ⟨Nat.zero_le _, Nat.zero_le _⟩ rfl hl.1 rfl rfl (Nat.le_of_ble_eq_true rfl) dX9_kindOf_142 (fun hP H locs hw => ?_)
    cases h
    exact r_iret hC hw dX9_kindOf_145
  have h := i_no c102 h
  by_cases c105 : y79 = 4
  · have h := i_yes c105 h
    refine lv_tableIn (off := 41) (tgt := 52) hx hb dX9_kindOf_11 (by rw [c105]; decide) (by rw [c105]; decide) (by rw [c105] <;> rfl) (by decide) ?_
    exact w_X9_kindOf_52 hC hR o0 a0 x1 y79 _ _ _ hi0 hw (lv_sub hl [1, 2, 0] rfl) h
  have h := i_no c105 h
  by_cases c106 : y79 = 5
  · have h := i_yes c106 h
    refine lv_tableIn (off := 66) (tgt := 77) hx hb dX9_kindOf_11 (by rw [c106]; decide) (by rw [c106]; decide) (by rw [c106] <;> rfl) (by decide) ?_
    exact w_X9_kindOf_77 hC hR o0 a0 x1 y79 _ _ _ hi0 hw (lv_sub hl [1, 2, 0] rfl) h
  have h := i_no c106 h
  by_cases c107 : y79 = 6
  · have h := i_yes c107 h
    refine lv_tableIn (off := 66) (tgt := 77) hx hb dX9_kindOf_11 (by rw [c107]; decide) (by rw [c107]; decide) (by rw [c107] <;> rfl) (by decide) ?_
    exact w_X9_kindOf_77 hC hR o0 a0 x1 y79 _ _ _ hi0 hw (lv_sub hl [1, 2, 0] rfl) h
  have h := i_no c107 h
  by_cases c108 : y79 = 7
  · have h := i_yes c108 h
    refine lv_tableIn (off := 41) (tgt := 52) hx hb dX9_kindOf_11 (by rw [c108]; decide) (by rw [c108]; decide) (by rw [c108] <;> rfl) (by decide) ?_
    exact w_X9_kindOf_52 hC hR o0 a0 x1 y79 _ _ _ hi0 hw (lv_sub hl [1, 2, 0] rfl) h
  have h := i_no c108 h
  refine lv_tableOut (tgt := 146) hx hb dX9_kindOf_11 (by have nc80 := lv_neT c80 (a := 1) rfl; have nc83 := lv_neT c83 (a := 2) rfl; have nc102 := lv_neT c102 (a := 3) rfl; have nc105 := lv_neT c105 (a := 4) rfl; have nc106 := lv_neT c106 (a := 5) rfl; have nc107 := lv_neT c107 (a := 6) rfl; have nc108 := lv_neT c108 (a := 7) rfl; omega) (by decide) ?_
  refine lv_aload_n hx hb dX9_kindOf_146 rfl (lv_at hl 1 rfl) ?_
  obtain ⟨o109, ho112, h⟩ := rq_i h
  refine r_getR hC hw kc_8 hi0 1 rfl lk_1073 dX9_kindOf_147 rfl ho112 (fun a110 hi111 => ?_)
  refine lv_iload_n hx hb dX9_kindOf_150 rfl (lv_at hl 2 rfl) ?_
  obtain ⟨hn113, h⟩ := ix_i h
  refine r_iald hC hw hi111 hn113 dX9_kindOf_151 ?_
  refine lv_bipush (v := 24) hx hb dX9_kindOf_152 (by decide) ?_
  refine lv_icmp_ne (tgt := 192) hx hb dX9_kindOf_154 (by decide) (fun c114 => ?_) (fun c114 => ?_)
  · have h := i_no c114 h
    refine lv_iconst (v := 0) hx hb dX9_kindOf_192 (by decide) ?_
    cases h
    exact r_iret hC hw dX9_kindOf_193
  · have h := i_yes c114 h
    refine lv_aload_n hx hb dX9_kindOf_157 rfl (lv_at hl 1 rfl) ?_
    obtain ⟨o115, ho118, h⟩ := rq_i h
    refine r_getR hC hw kc_8 hi0 3 rfl lk_1075 dX9_kindOf_158 rfl ho118 (fun a116 hi117 => ?_)
    refine lv_iload_n hx hb dX9_kindOf_161 rfl (lv_at hl 2 rfl) ?_
    obtain ⟨hn119, h⟩ := ix_i h
    refine r_iald hC hw hi117 hn119 dX9_kindOf_162 ?_
    refine lv_iconst (v := 2) hx hb dX9_kindOf_163 (by decide) ?_
    refine lv_icmp_ge (tgt := 192) hx hb dX9_kindOf_164 (by decide) (fun c120 => ?_) (fun c120 => ?_)
    · have h := i_yes c120 h
      refine lv_iconst (v := 0) hx hb dX9_kindOf_192 (by decide) ?_
      cases h
      exact r_iret hC hw dX9_kindOf_193
    · have h := i_no c120 h
      refine lv_aload_n hx hb dX9_kindOf_167 rfl (lv_at hl 1 rfl) ?_
      obtain ⟨o121, ho124, h⟩ := rq_i h
      refine r_getR hC hw kc_8 hi0 2 rfl lk_1074 dX9_kindOf_168 rfl ho124 (fun a122 hi123 => ?_)
      refine lv_iload_n hx hb dX9_kindOf_171 rfl (lv_at hl 2 rfl) ?_
      obtain ⟨hn125, h⟩ := ix_i h
      refine r_iald hC hw hi123 hn125 dX9_kindOf_172 ?_
      refine lv_bipush (v := 10) hx hb dX9_kindOf_173 (by decide) ?_
      refine lv_icmp_ge (tgt := 192) hx hb dX9_kindOf_175 (by decide) (fun c126 => ?_) (fun c126 => ?_)
      · have h := i_yes c126 h
        refine lv_iconst (v := 0) hx hb dX9_kindOf_192 (by decide) ?_
        cases h
        exact r_iret hC hw dX9_kindOf_193
      · have h := i_no c126 h
        refine lv_aload_n hx hb dX9_kindOf_178 rfl (lv_at hl 1 rfl) ?_
        obtain ⟨o127, ho130, h⟩ := rq_i h
        refine r_getR hC hw kc_8 hi0 4 rfl lk_1076 dX9_kindOf_179 rfl ho130 (fun a128 hi129 => ?_)
        refine lv_iload_n hx hb dX9_kindOf_182 rfl (lv_at hl 2 rfl) ?_
        obtain ⟨hn131, h⟩ := ix_i h
        refine r_iald hC hw hi129 hn131 dX9_kindOf_183 ?_
        refine lv_if_ne (tgt := 192) hx hb dX9_kindOf_184 (by decide) (fun c132 => ?_) (fun c132 => ?_)
        · have h := i_no c132 h
          refine lv_iconst (v := 0) hx hb dX9_kindOf_192 (by decide) ?_
          cases h
          exact r_iret hC hw dX9_kindOf_193
        · have h := i_yes c132 h
          refine lv_bipush (v := 11) hx hb dX9_kindOf_187 (by decide) ?_
          refine lv_goto (tgt := 193) hx hb dX9_kindOf_189 (by decide) ?_
          cases h
          exact r_iret hC hw dX9_kindOf_193
set_option maxHeartbeats 4000000 in
set_option maxRecDepth 100000 in
theorem k_X9_kindOf {l : Launch} {G : va_G} {cA : Nat → ClassId} {S : sh} {D : dt} {ad : Nat → Nat} (sz : Nat) {o0 a0 : Nat} {x1 : Int32} {r : Int32} (hi0 : Is S ad o0 a0 8) (h : f_X9_kindOf S D o0 x1 = some r) : Co l yX9_kindOf (Cond.code yX9_kindOf cX9_kindOf 3 (some .int) :: tb0) 3 69 [.ref a0, .int x1] G cA S D ad sz (some (.int r)) True D := by
  refine Met.ofW (cc := cX9_kindOf) (maxL := 3) (ret := (some .int)) (by decide) rfl ?_
  intro p e s m args below meth c s₁ B hml hv
  obtain ⟨rfl, hsz, hP, hK, hD0, hT, hX⟩ := hv
  subst hsz
  have hts := atoms_spec (ws := Cond.code yX9_kindOf cX9_kindOf 3 (some .int) :: tb0) B.pre
  have hC : Cx RX9 cX9_kindOf 3 (some .int) p s m _ meth c := ⟨B.exec, B.bytes, hml, findClass_of_methodNamed B.named, fun w q => hts w (List.mem_cons_of_mem _ q), B.returns, B.notSynchronized⟩
  have hw := Wd.entry hP hK hD0 hT hX
  have hl := lv_entry ([.ref a0, .int x1]) (n := 3) (Nat.le_of_ble_eq_true rfl)
  rw [lg_entry_eq]
  exact w_X9_kindOf_0 hC ⟨Nat.le_refl _, Nat.le_refl _⟩ o0 a0 x1 _ _ _ hi0 hw hl h
set_option maxHeartbeats 4000000 in
set_option maxRecDepth 100000 in
theorem w_X9_widthOf_0 {r : Int32} (hC : Cx RX9 cX9_widthOf 3 (some .int) p s m args meth c) (hR : 0 ≤ R.frames ∧ 0 ≤ R.locals) : ∀ (o0 a0 : Nat) (x1 : Int32) (H : Heap) (locs : List Loc) (ls : Array Slot), Is S ad o0 a0 8 → Wd G cA S D ad A s H locs → lv_has ls 3 [(0, .ref a0), (1, .int x1)] → f_X9_widthOf S D o0 x1 = some r → W p l e R s m args below meth c H locs 0 0 (MQ below (Qn (some (.int r)) True (wpost G cA S D ad A) A) args s 0 0 A) (F0 m 0 ls []) := by
  obtain ⟨hx, hb, -⟩ := id hC
  intro o0 a0 x1 H locs ls hi0 hw hl h
  unfold f_X9_widthOf at h
  refine lv_aload_n hx hb dX9_widthOf_0 rfl (lv_at hl 0 rfl) ?_
  obtain ⟨o10, ho13, h⟩ := rq_i h
  refine r_getR hC hw kc_8 hi0 1 rfl lk_1073 dX9_widthOf_1 rfl ho13 (fun a11 hi12 => ?_)
  refine lv_iload_n hx hb dX9_widthOf_4 rfl (lv_at hl 1 rfl) ?_
  obtain ⟨hn14, h⟩ := ix_i h
  refine r_iald hC hw hi12 hn14 dX9_widthOf_5 ?_
  refine lv_bipush (v := 24) hx hb dX9_widthOf_6 (by decide) ?_
  refine lv_iand hx hb dX9_widthOf_8 ?_
  refine lv_topi (fun y15 ey15 => ?_)
  have h := nm_i h y15 ey15
  refine lv_istore_n (lv' := [(2, .int y15), (0, .ref a0), (1, .int x1)]) hx hb dX9_widthOf_9 rfl hl (by decide) rfl (fun ls hl => ?_)
  refine lv_iload_n hx hb dX9_widthOf_10 rfl (lv_at hl 0 rfl) ?_
  refine lv_if_ne (tgt := 18) hx hb dX9_widthOf_11 (by decide) (fun c16 => ?_) (fun c16 => ?_)
  · have h := i_no c16 h
    refine lv_iload_n hx hb dX9_widthOf_18 rfl (lv_at hl 0 rfl) ?_
    refine lv_bipush (v := 8) hx hb dX9_widthOf_19 (by decide) ?_
    refine lv_icmp_ne (tgt := 28) hx hb dX9_widthOf_21 (by decide) (fun c17 => ?_) (fun c17 => ?_)
    · have h := i_no c17 h
      refine lv_iload_n hx hb dX9_widthOf_28 rfl (lv_at hl 0 rfl) ?_
      refine lv_bipush (v := 16) hx hb dX9_widthOf_29 (by decide) ?_
      refine lv_icmp_ne (tgt := 38) hx hb dX9_widthOf_31 (by decide) (fun c18 => ?_) (fun c18 => ?_)
      · have h := i_no c18 h
        refine lv_bipush (v := 8) hx hb dX9_widthOf_38 (by decide) ?_
        cases h
        exact r_iret hC hw dX9_widthOf_40
      · have h := i_yes c18 h
        refine lv_iconst (v := 1) hx hb dX9_widthOf_34 (by decide) ?_
        refine lv_goto (tgt := 40) hx hb dX9_widthOf_35 (by decide) ?_
        cases h
        exact r_iret hC hw dX9_widthOf_40
    · have h := i_yes c17 h
      refine lv_iconst (v := 2) hx hb dX9_widthOf_24 (by decide) ?_
      refine lv_goto (tgt := 40) hx hb dX9_widthOf_25 (by decide) ?_
      cases h
      exact r_iret hC hw dX9_widthOf_40
  · have h := i_yes c16 h
    refine lv_iconst (v := 4) hx hb dX9_widthOf_14 (by decide) ?_
    refine lv_goto (tgt := 40) hx hb dX9_widthOf_15 (by decide) ?_
    cases h
    exact r_iret hC hw dX9_widthOf_40
set_option maxHeartbeats 4000000 in
set_option maxRecDepth 100000 in
theorem k_X9_widthOf {l : Launch} {G : va_G} {cA : Nat → ClassId} {S : sh} {D : dt} {ad : Nat → Nat} (sz : Nat) {o0 a0 : Nat} {x1 : Int32} {r : Int32} (hi0 : Is S ad o0 a0 8) (h : f_X9_widthOf S D o0 x1 = some r) : Co l yX9_widthOf (Cond.code yX9_widthOf cX9_widthOf 3 (some .int) :: tb0) 0 0 [.ref a0, .int x1] G cA S D ad sz (some (.int r)) True D := by
  refine Met.ofW (cc := cX9_widthOf) (maxL := 3) (ret := (some .int)) (by decide) rfl ?_
  intro p e s m args below meth c s₁ B hml hv
  obtain ⟨rfl, hsz, hP, hK, hD0, hT, hX⟩ := hv
  subst hsz
  have hts := atoms_spec (ws := Cond.code yX9_widthOf cX9_widthOf 3 (some .int) :: tb0) B.pre
  have hC : Cx RX9 cX9_widthOf 3 (some .int) p s m _ meth c := ⟨B.exec, B.bytes, hml, findClass_of_methodNamed B.named, fun w q => hts w (List.mem_cons_of_mem _ q), B.returns, B.notSynchronized⟩
  have hw := Wd.entry hP hK hD0 hT hX
  have hl := lv_entry ([.ref a0, .int x1]) (n := 3) (Nat.le_of_ble_eq_true rfl)
  rw [lg_entry_eq]
  exact w_X9_widthOf_0 hC ⟨Nat.le_refl _, Nat.le_refl _⟩ o0 a0 x1 _ _ _ hi0 hw hl h
set_option maxHeartbeats 4000000 in
set_option maxRecDepth 100000 in
theorem w_X9_isSecond_56 {r : Int32} (hC : Cx RX9 cX9_isSecond 2 (some .boolean) p s m args meth c) (hR : 0 ≤ R.frames ∧ 0 ≤ R.locals) : ∀  (H : Heap) (locs : List Loc) (ls : Array Slot), Wd G cA S D ad A s H locs → lv_has ls 2 [] → f_X9_isSecond_56 S D = some r → W p l e R s m args below meth c H locs 0 0 (MQ below (Qn (some (.int r)) True (wpost G cA S D ad A) A) args s 0 0 A) (F0 m 56 ls []) := by
  obtain ⟨hx, hb, -⟩ := id hC
  intro H locs ls  hw hl h
  unfold f_X9_isSecond_56 at h
  refine lv_iconst (v := 1) hx hb dX9_isSecond_56 (by decide) ?_
  refine lv_goto (tgt := 61) hx hb dX9_isSecond_57 (by decide) ?_
  cases h
  exact r_zret hC hw (Or.inr rfl) dX9_isSecond_61
set_option maxHeartbeats 4000000 in
set_option maxRecDepth 100000 in
theorem w_X9_isSecond_0 {r : Int32} (hC : Cx RX9 cX9_isSecond 2 (some .boolean) p s m args meth c) (hR : 0 ≤ R.frames ∧ 0 ≤ R.locals) : ∀ (o0 a0 : Nat) (x1 : Int32) (H : Heap) (locs : List Loc) (ls : Array Slot), Is S ad o0 a0 8 → Wd G cA S D ad A s H locs → lv_has ls 2 [(0, .ref a0), (1, .int x1)] → f_X9_isSecond S D o0 x1 = some r → W p l e R s m args below meth c H locs 0 0 (MQ below (Qn (some (.int r)) True (wpost G cA S D ad A) A) args s 0 0 A) (F0 m 0 ls []) := by
  obtain ⟨hx, hb, -⟩ := id hC
  intro o0 a0 x1 H locs ls hi0 hw hl h
  unfold f_X9_isSecond at h
  refine lv_aload_n hx hb dX9_isSecond_0 rfl (lv_at hl 0 rfl) ?_
  obtain ⟨o37, ho40, h⟩ := rq_i h
  refine r_getR hC hw kc_8 hi0 1 rfl lk_1073 dX9_isSecond_1 rfl ho40 (fun a38 hi39 => ?_)
  refine lv_iload_n hx hb dX9_isSecond_4 rfl (lv_at hl 1 rfl) ?_
  obtain ⟨hn41, h⟩ := ix_i h
  refine r_iald hC hw hi39 hn41 dX9_isSecond_5 ?_
  refine lv_if_ne (tgt := 60) hx hb dX9_isSecond_6 (by decide) (fun c42 => ?_) (fun c42 => ?_)
  · have h := i_no c42 h
    refine lv_iconst (v := 0) hx hb dX9_isSecond_60 (by decide) ?_
    cases h
    exact r_zret hC hw (Or.inl rfl) dX9_isSecond_61
  · have h := i_yes c42 h
    refine lv_aload_n hx hb dX9_isSecond_9 rfl (lv_at hl 0 rfl) ?_
    obtain ⟨o43, ho46, h⟩ := rq_i h
    refine r_getR hC hw kc_8 hi0 2 rfl lk_1074 dX9_isSecond_10 rfl ho46 (fun a44 hi45 => ?_)
    refine lv_iload_n hx hb dX9_isSecond_13 rfl (lv_at hl 1 rfl) ?_
    obtain ⟨hn47, h⟩ := ix_i h
    refine r_iald hC hw hi45 hn47 dX9_isSecond_14 ?_
    refine lv_if_ne (tgt := 60) hx hb dX9_isSecond_15 (by decide) (fun c48 => ?_) (fun c48 => ?_)
    · have h := i_no c48 h
      refine lv_iconst (v := 0) hx hb dX9_isSecond_60 (by decide) ?_
      cases h
      exact r_zret hC hw (Or.inl rfl) dX9_isSecond_61
    · have h := i_yes c48 h
      refine lv_aload_n hx hb dX9_isSecond_18 rfl (lv_at hl 0 rfl) ?_
      obtain ⟨o49, ho52, h⟩ := rq_i h
      refine r_getR hC hw kc_8 hi0 3 rfl lk_1075 dX9_isSecond_19 rfl ho52 (fun a50 hi51 => ?_)
      refine lv_iload_n hx hb dX9_isSecond_22 rfl (lv_at hl 1 rfl) ?_
      obtain ⟨hn53, h⟩ := ix_i h
      refine r_iald hC hw hi51 hn53 dX9_isSecond_23 ?_
      refine lv_if_ne (tgt := 60) hx hb dX9_isSecond_24 (by decide) (fun c54 => ?_) (fun c54 => ?_)
      · have h := i_no c54 h
        refine lv_iconst (v := 0) hx hb dX9_isSecond_60 (by decide) ?_
        cases h
        exact r_zret hC hw (Or.inl rfl) dX9_isSecond_61
      · have h := i_yes c54 h
        refine lv_aload_n hx hb dX9_isSecond_27 rfl (lv_at hl 0 rfl) ?_
        obtain ⟨o55, ho58, h⟩ := rq_i h
        refine r_getR hC hw kc_8 hi0 4 rfl lk_1076 dX9_isSecond_28 rfl ho58 (fun a56 hi57 => ?_)
        refine lv_iload_n hx hb dX9_isSecond_31 rfl (lv_at hl 1 rfl) ?_
        obtain ⟨hn59, h⟩ := ix_i h
        refine r_iald hC hw hi57 hn59 dX9_isSecond_32 ?_
        refine lv_if_ne (tgt := 60) hx hb dX9_isSecond_33 (by decide) (fun c60 => ?_) (fun c60 => ?_)
        · have h := i_no c60 h
          refine lv_iconst (v := 0) hx hb dX9_isSecond_60 (by decide) ?_
          cases h
          exact r_zret hC hw (Or.inl rfl) dX9_isSecond_61
        · have h := i_yes c60 h
          refine lv_aload_n hx hb dX9_isSecond_36 rfl (lv_at hl 0 rfl) ?_
          obtain ⟨o61, ho64, h⟩ := rq_i h
          refine r_getR hC hw kc_8 hi0 3 rfl lk_1075 dX9_isSecond_37 rfl ho64 (fun a62 hi63 => ?_)
          refine lv_iload_n hx hb dX9_isSecond_40 rfl (lv_at hl 1 rfl) ?_
          refine lv_iconst (v := 1) hx hb dX9_isSecond_41 (by decide) ?_
          refine lv_isub hx hb dX9_isSecond_42 ?_
          obtain ⟨hn65, h⟩ := ix_i h
          refine r_iald hC hw hi63 hn65 dX9_isSecond_43 ?_
          refine lv_if_eq (tgt := 56) hx hb dX9_isSecond_44 (by decide) (fun c66 => ?_) (fun c66 => ?_)
          · have h := i_yes c66 h
            exact w_X9_isSecond_56 hC hR _ _ _ hw (lv_sub hl [] rfl) h
          · have h := i_no c66 h
            refine lv_aload_n hx hb dX9_isSecond_47 rfl (lv_at hl 0 rfl) ?_
            obtain ⟨o67, ho70, h⟩ := rq_i h
            refine r_getR hC hw kc_8 hi0 5 rfl lk_1077 dX9_isSecond_48 rfl ho70 (fun a68 hi69 => ?_)
            refine lv_iload_n hx hb dX9_isSecond_51 rfl (lv_at hl 1 rfl) ?_
            obtain ⟨hn71, h⟩ := ix_i h
            refine r_iald hC hw hi69 hn71 dX9_isSecond_52 ?_
            refine lv_if_ne (tgt := 60) hx hb dX9_isSecond_53 (by decide) (fun c72 => ?_) (fun c72 => ?_)
            · have h := i_no c72 h
              refine lv_iconst (v := 0) hx hb dX9_isSecond_60 (by decide) ?_
              cases h
              exact r_zret hC hw (Or.inl rfl) dX9_isSecond_61
            · have h := i_yes c72 h
              exact w_X9_isSecond_56 hC hR _ _ _ hw (lv_sub hl [] rfl) h
set_option maxHeartbeats 4000000 in
set_option maxRecDepth 100000 in
theorem k_X9_isSecond {l : Launch} {G : va_G} {cA : Nat → ClassId} {S : sh} {D : dt} {ad : Nat → Nat} (sz : Nat) {o0 a0 : Nat} {x1 : Int32} {r : Int32} (hi0 : Is S ad o0 a0 8) (h : f_X9_isSecond S D o0 x1 = some r) : Co l yX9_isSecond (Cond.code yX9_isSecond cX9_isSecond 2 (some .boolean) :: tb0) 0 0 [.ref a0, .int x1] G cA S D ad sz (some (.int r)) True D := by
  refine Met.ofW (cc := cX9_isSecond) (maxL := 2) (ret := (some .boolean)) (by decide) rfl ?_
  intro p e s m args below meth c s₁ B hml hv
  obtain ⟨rfl, hsz, hP, hK, hD0, hT, hX⟩ := hv
  subst hsz
  have hts := atoms_spec (ws := Cond.code yX9_isSecond cX9_isSecond 2 (some .boolean) :: tb0) B.pre
  have hC : Cx RX9 cX9_isSecond 2 (some .boolean) p s m _ meth c := ⟨B.exec, B.bytes, hml, findClass_of_methodNamed B.named, fun w q => hts w (List.mem_cons_of_mem _ q), B.returns, B.notSynchronized⟩
  have hw := Wd.entry hP hK hD0 hT hX
  have hl := lv_entry ([.ref a0, .int x1]) (n := 2) (Nat.le_of_ble_eq_true rfl)
  rw [lg_entry_eq]
  exact w_X9_isSecond_0 hC ⟨Nat.le_refl _, Nat.le_refl _⟩ o0 a0 x1 _ _ _ hi0 hw hl h
set_option maxHeartbeats 4000000 in
set_option maxRecDepth 100000 in
theorem w_X9_over_0 {r : Int64} (hC : Cx RX9 cX9_over 6 (some .long) p s m args meth c) (hR : 1 ≤ R.frames ∧ 23 ≤ R.locals) : ∀ (x0 : Int64) (x2 : Int64) (H : Heap) (locs : List Loc) (ls : Array Slot), Wd G cA S D ad A s H locs → lv_has ls 6 [(0, .long x0), (2, .long x2)] → f_X9_over x0 x2 = some r → W p l e R s m args below meth c H locs 0 0 (MQ below (Qn (some (.long r)) True (wpost G cA S D ad A) A) args s 0 0 A) (F0 m 0 ls []) := by
  obtain ⟨hx, hb, -⟩ := id hC
  intro x0 x2 H locs ls hw hl h
  unfold f_X9_over at h
  refine lv_lload_n hx hb dX9_over_0 rfl (lv_at hl 1 rfl) ?_
  refine lv_lconst (v := 0) hx hb dX9_over_1 (by decide) ?_
  refine W.lcmp hx hb dX9_over_2 ?_
  refine lv_if_ge (tgt := 20) hx hb dX9_over_3 (by decide) (fun c10 => ?_) (fun c10 => ?_)
  · have h := i_yes c10 h
    refine lv_lload_n hx hb dX9_over_20 rfl (lv_at hl 0 rfl) ?_
    refine lv_iconst (v := 1) hx hb dX9_over_21 (by decide) ?_
    refine lv_lushr (v := j_lushr x0 (1 : Int32)) hx hb dX9_over_22 rfl ?_
    refine lv_lload_n hx hb dX9_over_23 rfl (lv_at hl 1 rfl) ?_
    obtain ⟨hz11, h⟩ := ck_i h
    refine lv_ldiv hx hb dX9_over_24 hz11 ?_
    refine lv_iconst (v := 1) hx hb dX9_over_25 (by decide) ?_
    refine lv_lshl (v := j_lshl ((j_lushr x0 (1 : Int32)) / x2) (1 : Int32)) hx hb dX9_over_26 rfl ?_
    refine lv_topl (fun y12 ey12 => ?_)
    have h := nm_i h y12 ey12
    refine lv_lstore (lv' := [(4, .long y12), (0, .long x0), (2, .long x2)]) hx hb dX9_over_27 hl (by decide) rfl (fun ls hl => ?_)
    refine lv_lload_n hx hb dX9_over_29 rfl (lv_at hl 1 rfl) ?_
    refine lv_lload hx hb dX9_over_30 (lv_at hl 0 rfl) ?_
    refine lv_lload_n hx hb dX9_over_32 rfl (lv_at hl 2 rfl) ?_
    refine lv_lmul hx hb dX9_over_33 ?_
    refine lv_lsub hx hb dX9_over_34 ?_
    refine lv_lload_n hx hb dX9_over_35 rfl (lv_at hl 2 rfl) ?_
    obtain ⟨r14, hq13, h⟩ := pq_i h
    refine r_cS (st' := [.int r14]) [.long (x0 - (y12 * x2)), .long x2] [] hC hw (k_X9_isBelow _ hq13) mk_X9_isBelow lk_1358 ⟨Nat.le_trans (by decide) hR.1, Nat.le_trans (by decide) hR.2⟩ ⟨Nat.zero_le _, Nat.zero_le _⟩ rfl hl.1 rfl rfl (Nat.le_of_ble_eq_true rfl) dX9_over_36 (fun hP H locs hw => ?_)
    refine lv_if_eq (tgt := 47) hx hb dX9_over_39 (by decide) (fun c15 => ?_) (fun c15 => ?_)
    · have h := i_yes c15 h
      refine lv_lload hx hb dX9_over_47 (lv_at hl 0 rfl) ?_
      refine lv_lconst (v := 1) hx hb dX9_over_49 (by decide) ?_
      refine lv_ladd hx hb dX9_over_50 ?_
      cases h
      exact r_lret hC hw dX9_over_51
    · have h := i_no c15 h
      refine lv_lload hx hb dX9_over_42 (lv_at hl 0 rfl) ?_
      refine lv_goto (tgt := 51) hx hb dX9_over_44 (by decide) ?_
      cases h
      exact r_lret hC hw dX9_over_51
  · have h := i_no c10 h
    refine lv_lload_n hx hb dX9_over_6 rfl (lv_at hl 0 rfl) ?_
    refine lv_lload_n hx hb dX9_over_7 rfl (lv_at hl 1 rfl) ?_
    obtain ⟨r17, hq16, h⟩ := pq_i h
    refine r_cS (st' := [.int r17]) [.long x0, .long x2] [] hC hw (k_X9_isBelow _ hq16) mk_X9_isBelow lk_1358 ⟨Nat.le_trans (by decide) hR.1, Nat.le_trans (by decide) hR.2⟩ ⟨Nat.zero_le _, Nat.zero_le _⟩ rfl hl.1 rfl rfl (Nat.le_of_ble_eq_true rfl) dX9_over_8 (fun hP H locs hw => ?_)
    refine lv_if_eq (tgt := 18) hx hb dX9_over_11 (by decide) (fun c18 => ?_) (fun c18 => ?_)
    · have h := i_yes c18 h
      refine lv_lconst (v := 1) hx hb dX9_over_18 (by decide) ?_
      cases h
      exact r_lret hC hw dX9_over_19
    · have h := i_no c18 h
      refine lv_lconst (v := 0) hx hb dX9_over_14 (by decide) ?_
      refine lv_goto (tgt := 19) hx hb dX9_over_15 (by decide) ?_
      cases h
      exact r_lret hC hw dX9_over_19
set_option maxHeartbeats 4000000 in
set_option maxRecDepth 100000 in
theorem k_X9_over {l : Launch} {G : va_G} {cA : Nat → ClassId} {S : sh} {D : dt} {ad : Nat → Nat} (sz : Nat) {x0 : Int64} {x2 : Int64} {r : Int64}  (h : f_X9_over x0 x2 = some r) : Co l yX9_over (Cond.code yX9_over cX9_over 6 (some .long) :: tb0) 1 23 [.long x0, .long x2] G cA S D ad sz (some (.long r)) True D := by
  refine Met.ofW (cc := cX9_over) (maxL := 6) (ret := (some .long)) (by decide) rfl ?_
  intro p e s m args below meth c s₁ B hml hv
  obtain ⟨rfl, hsz, hP, hK, hD0, hT, hX⟩ := hv
  subst hsz
  have hts := atoms_spec (ws := Cond.code yX9_over cX9_over 6 (some .long) :: tb0) B.pre
  have hC : Cx RX9 cX9_over 6 (some .long) p s m _ meth c := ⟨B.exec, B.bytes, hml, findClass_of_methodNamed B.named, fun w q => hts w (List.mem_cons_of_mem _ q), B.returns, B.notSynchronized⟩
  have hw := Wd.entry hP hK hD0 hT hX
  have hl := lv_entry ([.long x0, .long x2]) (n := 6) (Nat.le_of_ble_eq_true rfl)
  rw [lg_entry_eq]
  exact w_X9_over_0 hC ⟨Nat.le_refl _, Nat.le_refl _⟩ x0 x2 _ _ _ hw hl h
set_option maxHeartbeats 4000000 in
set_option maxRecDepth 100000 in
theorem w_X9_signed_0 {r : Int64} (hC : Cx RX9 cX9_signed 3 (some .long) p s m args meth c) (hR : 0 ≤ R.frames ∧ 0 ≤ R.locals) : ∀ (x0 : Int64) (x2 : Int32) (H : Heap) (locs : List Loc) (ls : Array Slot), Wd G cA S D ad A s H locs → lv_has ls 3 [(0, .long x0), (2, .int x2)] → f_X9_signed x0 x2 = some r → W p l e R s m args below meth c H locs 0 0 (MQ below (Qn (some (.long r)) True (wpost G cA S D ad A) A) args s 0 0 A) (F0 m 0 ls []) := by
  obtain ⟨hx, hb, -⟩ := id hC
  intro x0 x2 H locs ls hw hl h
  unfold f_X9_signed at h
  refine lv_lload_n hx hb dX9_signed_0 rfl (lv_at hl 0 rfl) ?_
  refine lv_bipush (v := 64) hx hb dX9_signed_1 (by decide) ?_
  refine lv_iload_n hx hb dX9_signed_3 rfl (lv_at hl 1 rfl) ?_
  refine lv_isub hx hb dX9_signed_4 ?_
  refine lv_lshl (v := j_lshl x0 ((64 : Int32) - x2)) hx hb dX9_signed_5 rfl ?_
  refine lv_bipush (v := 64) hx hb dX9_signed_6 (by decide) ?_
  refine lv_iload_n hx hb dX9_signed_8 rfl (lv_at hl 1 rfl) ?_
  refine lv_isub hx hb dX9_signed_9 ?_
  refine lv_lshr (v := j_lshr (j_lshl x0 ((64 : Int32) - x2)) ((64 : Int32) - x2)) hx hb dX9_signed_10 rfl ?_
  cases h
  exact r_lret hC hw dX9_signed_11
set_option maxHeartbeats 4000000 in
set_option maxRecDepth 100000 in
theorem k_X9_signed {l : Launch} {G : va_G} {cA : Nat → ClassId} {S : sh} {D : dt} {ad : Nat → Nat} (sz : Nat) {x0 : Int64} {x2 : Int32} {r : Int64}  (h : f_X9_signed x0 x2 = some r) : Co l yX9_signed (Cond.code yX9_signed cX9_signed 3 (some .long) :: tb0) 0 0 [.long x0, .int x2] G cA S D ad sz (some (.long r)) True D := by
  refine Met.ofW (cc := cX9_signed) (maxL := 3) (ret := (some .long)) (by decide) rfl ?_
  intro p e s m args below meth c s₁ B hml hv
  obtain ⟨rfl, hsz, hP, hK, hD0, hT, hX⟩ := hv
  subst hsz
  have hts := atoms_spec (ws := Cond.code yX9_signed cX9_signed 3 (some .long) :: tb0) B.pre
  have hC : Cx RX9 cX9_signed 3 (some .long) p s m _ meth c := ⟨B.exec, B.bytes, hml, findClass_of_methodNamed B.named, fun w q => hts w (List.mem_cons_of_mem _ q), B.returns, B.notSynchronized⟩
  have hw := Wd.entry hP hK hD0 hT hX
  have hl := lv_entry ([.long x0, .int x2]) (n := 3) (Nat.le_of_ble_eq_true rfl)
  rw [lg_entry_eq]
  exact w_X9_signed_0 hC ⟨Nat.le_refl _, Nat.le_refl _⟩ x0 x2 _ _ _ hw hl h
set_option maxHeartbeats 4000000 in
set_option maxRecDepth 100000 in
theorem w_X9_turned_5 {r : Int64} (hC : Cx RX9 cX9_turned 6 (some .long) p s m args meth c) (hR : 0 ≤ R.frames ∧ 0 ≤ R.locals) : ∀ (n : Nat), ∀ (x0 : Int64) (x2 : Int32) (x3 : Int64) (x5 : Int32) (H : Heap) (locs : List Loc) (ls : Array Slot), Wd G cA S D ad A s H locs → lv_has ls 6 [(0, .long x0), (2, .int x2), (3, .long x3), (5, .int x5)] → f_X9_turned_5 n x0 x2 x3 x5 = some r → W p l e R s m args below meth c H locs 0 0 (MQ below (Qn (some (.long r)) True (wpost G cA S D ad A) A) args s 0 0 A) (F0 m 5 ls []) := by
  obtain ⟨hx, hb, -⟩ := id hC
  intro n
  induction n with
  | zero =>
    intro x0 x2 x3 x5 H locs ls hw hl h
    rw [f_X9_turned_5.eq_1] at h
    cases h
  | succ n ih =>
    intro x0 x2 x3 x5 H locs ls hw hl h
    rw [f_X9_turned_5.eq_2] at h
    refine lv_iload hx hb dX9_turned_5 (lv_at hl 3 rfl) ?_
    refine lv_iload_n hx hb dX9_turned_7 rfl (lv_at hl 1 rfl) ?_
    refine lv_icmp_ge (tgt := 31) hx hb dX9_turned_8 (by decide) (fun c6 => ?_) (fun c6 => ?_)
    · have h := i_yes c6 h
      refine lv_lload_n hx hb dX9_turned_31 rfl (lv_at hl 2 rfl) ?_
      cases h
      exact r_lret hC hw dX9_turned_32
    · have h := i_no c6 h
      refine lv_lload_n hx hb dX9_turned_11 rfl (lv_at hl 2 rfl) ?_
      refine lv_bipush (v := 8) hx hb dX9_turned_12 (by decide) ?_
      refine lv_lshl (v := j_lshl x3 (8 : Int32)) hx hb dX9_turned_14 rfl ?_
      refine lv_lload_n hx hb dX9_turned_15 rfl (lv_at hl 0 rfl) ?_
      refine lv_iload hx hb dX9_turned_16 (lv_at hl 3 rfl) ?_
      refine lv_lshr (v := j_lshr x0 x5) hx hb dX9_turned_18 rfl ?_
      refine lv_ldc2 (v := 255) hx hb hC.2.2.2.1 (hC.2.2.2.2.1 _ lk_1242) dX9_turned_19 ?_
      refine lv_land hx hb dX9_turned_22 ?_
      refine lv_lor hx hb dX9_turned_23 ?_
      refine lv_topl (fun y7 ey7 => ?_)
      have h := nm_i h y7 ey7
      refine lv_lstore_n (lv' := [(3, .long y7), (0, .long x0), (2, .int x2), (5, .int x5)]) hx hb dX9_turned_24 rfl hl (by decide) rfl (fun ls hl => ?_)
      obtain ⟨y8, ey8⟩ : ∃ z : Int32, z = x5 + 8 := ⟨_, rfl⟩
      have h := nm_i h y8 ey8
      refine lv_iinc (v := y8) (lv' := [(5, .int y8), (3, .long y7), (0, .long x0), (2, .int x2)]) hx hb dX9_turned_25 hl (k := 3) rfl (by rw [ey8]; rfl) (by decide) rfl (fun ls hl => ?_)
      refine lv_goto (tgt := 5) hx hb dX9_turned_28 (by decide) ?_
      exact ih x0 x2 y7 y8 _ _ _ hw (lv_sub hl [2, 3, 1, 0] rfl) h
set_option maxHeartbeats 4000000 in
set_option maxRecDepth 100000 in
theorem w_X9_turned_0 {r : Int64} (hC : Cx RX9 cX9_turned 6 (some .long) p s m args meth c) (hR : 0 ≤ R.frames ∧ 0 ≤ R.locals) : ∀ (x0 : Int64) (x2 : Int32) (H : Heap) (locs : List Loc) (ls : Array Slot), Wd G cA S D ad A s H locs → lv_has ls 6 [(0, .long x0), (2, .int x2)] → f_X9_turned x0 x2 = some r → W p l e R s m args below meth c H locs 0 0 (MQ below (Qn (some (.long r)) True (wpost G cA S D ad A) A) args s 0 0 A) (F0 m 0 ls []) := by
  obtain ⟨hx, hb, -⟩ := id hC
  intro x0 x2 H locs ls hw hl h
  unfold f_X9_turned at h
  refine lv_lconst (v := 0) hx hb dX9_turned_0 (by decide) ?_
  refine lv_topl (fun y9 ey9 => ?_)
  have h := nm_i h y9 ey9
  refine lv_lstore_n (lv' := [(3, .long y9), (0, .long x0), (2, .int x2)]) hx hb dX9_turned_1 rfl hl (by decide) rfl (fun ls hl => ?_)
  refine lv_iconst (v := 0) hx hb dX9_turned_2 (by decide) ?_
  refine lv_topi (fun y10 ey10 => ?_)
  have h := nm_i h y10 ey10
  refine lv_istore (lv' := [(5, .int y10), (3, .long y9), (0, .long x0), (2, .int x2)]) hx hb dX9_turned_3 hl (by decide) rfl (fun ls hl => ?_)
  exact w_X9_turned_5 hC hR LF x0 x2 y9 y10 _ _ _ hw (lv_sub hl [2, 3, 1, 0] rfl) h
set_option maxHeartbeats 4000000 in
set_option maxRecDepth 100000 in
theorem k_X9_turned {l : Launch} {G : va_G} {cA : Nat → ClassId} {S : sh} {D : dt} {ad : Nat → Nat} (sz : Nat) {x0 : Int64} {x2 : Int32} {r : Int64}  (h : f_X9_turned x0 x2 = some r) : Co l yX9_turned (Cond.code yX9_turned cX9_turned 6 (some .long) :: tb0) 0 0 [.long x0, .int x2] G cA S D ad sz (some (.long r)) True D := by
  refine Met.ofW (cc := cX9_turned) (maxL := 6) (ret := (some .long)) (by decide) rfl ?_
  intro p e s m args below meth c s₁ B hml hv
  obtain ⟨rfl, hsz, hP, hK, hD0, hT, hX⟩ := hv
  subst hsz
  have hts := atoms_spec (ws := Cond.code yX9_turned cX9_turned 6 (some .long) :: tb0) B.pre
  have hC : Cx RX9 cX9_turned 6 (some .long) p s m _ meth c := ⟨B.exec, B.bytes, hml, findClass_of_methodNamed B.named, fun w q => hts w (List.mem_cons_of_mem _ q), B.returns, B.notSynchronized⟩
  have hw := Wd.entry hP hK hD0 hT hX
  have hl := lv_entry ([.long x0, .int x2]) (n := 6) (Nat.le_of_ble_eq_true rfl)
  rw [lg_entry_eq]
  exact w_X9_turned_0 hC ⟨Nat.le_refl _, Nat.le_refl _⟩ x0 x2 _ _ _ hw hl h
end

theorem dX9_call_0 : decode cX9_call 0 = .ok (.aload_n 0, 1) := by decide +kernel
theorem dX9_call_1 : decode cX9_call 1 = .ok (.getfield 244, 3) := by decide +kernel
theorem dX9_call_4 : decode cX9_call 4 = .ok (.lstore_n 2, 1) := by decide +kernel
theorem dX9_call_5 : decode cX9_call 5 = .ok (.iload_n 1, 1) := by decide +kernel
theorem dX9_call_6 : decode cX9_call 6 = .ok (.bipush 6, 2) := by decide +kernel
theorem dX9_call_8 : decode cX9_call 8 = .ok (.if_icmp .ne 36, 3) := by decide +kernel
theorem dX9_call_11 : decode cX9_call 11 = .ok (.aload_n 0, 1) := by decide +kernel
theorem dX9_call_12 : decode cX9_call 12 = .ok (.getfield 57, 3) := by decide +kernel
theorem dX9_call_15 : decode cX9_call 15 = .ok (.aload_n 0, 1) := by decide +kernel
theorem dX9_call_16 : decode cX9_call 16 = .ok (.getfield 248, 3) := by decide +kernel
theorem dX9_call_19 : decode cX9_call 19 = .ok (.bipush 32, 2) := by decide +kernel
theorem dX9_call_21 : decode cX9_call 21 = .ok (.irem, 1) := by decide +kernel
theorem dX9_call_22 : decode cX9_call 22 = .ok (.aload_n 0, 1) := by decide +kernel
theorem dX9_call_23 : decode cX9_call 23 = .ok (.getfield 53, 3) := by decide +kernel
theorem dX9_call_26 : decode cX9_call 26 = .ok (.iconst 1, 1) := by decide +kernel
theorem dX9_call_27 : decode cX9_call 27 = .ok (.laload, 1) := by decide +kernel
theorem dX9_call_28 : decode cX9_call 28 = .ok (.lastore, 1) := by decide +kernel
theorem dX9_call_29 : decode cX9_call 29 = .ok (.aload_n 0, 1) := by decide +kernel
theorem dX9_call_30 : decode cX9_call 30 = .ok (.dup, 1) := by decide +kernel
theorem dX9_call_31 : decode cX9_call 31 = .ok (.getfield 248, 3) := by decide +kernel
theorem dX9_call_34 : decode cX9_call 34 = .ok (.iconst 1, 1) := by decide +kernel
theorem dX9_call_35 : decode cX9_call 35 = .ok (.iadd, 1) := by decide +kernel
theorem dX9_call_36 : decode cX9_call 36 = .ok (.putfield 248, 3) := by decide +kernel
theorem dX9_call_39 : decode cX9_call 39 = .ok (.lconst 0, 1) := by decide +kernel
theorem dX9_call_40 : decode cX9_call 40 = .ok (.lstore_n 2, 1) := by decide +kernel
theorem dX9_call_41 : decode cX9_call 41 = .ok (.goto 306, 3) := by decide +kernel
theorem dX9_call_44 : decode cX9_call 44 = .ok (.iload_n 1, 1) := by decide +kernel
theorem dX9_call_45 : decode cX9_call 45 = .ok (.iconst 4, 1) := by decide +kernel
theorem dX9_call_46 : decode cX9_call 46 = .ok (.if_icmp .ge 301, 3) := by decide +kernel
theorem dX9_call_49 : decode cX9_call 49 = .ok (.aload_n 0, 1) := by decide +kernel
theorem dX9_call_50 : decode cX9_call 50 = .ok (.getfield 53, 3) := by decide +kernel
theorem dX9_call_53 : decode cX9_call 53 = .ok (.iconst 1, 1) := by decide +kernel
theorem dX9_call_54 : decode cX9_call 54 = .ok (.laload, 1) := by decide +kernel
theorem dX9_call_55 : decode cX9_call 55 = .ok (.ldc2_w 251, 3) := by decide +kernel
theorem dX9_call_58 : decode cX9_call 58 = .ok (.lsub, 1) := by decide +kernel
theorem dX9_call_59 : decode cX9_call 59 = .ok (.l2i, 1) := by decide +kernel
theorem dX9_call_60 : decode cX9_call 60 = .ok (.istore 4, 2) := by decide +kernel
theorem dX9_call_62 : decode cX9_call 62 = .ok (.aload_n 0, 1) := by decide +kernel
theorem dX9_call_63 : decode cX9_call 63 = .ok (.getfield 53, 3) := by decide +kernel
theorem dX9_call_66 : decode cX9_call 66 = .ok (.iconst 1, 1) := by decide +kernel
theorem dX9_call_67 : decode cX9_call 67 = .ok (.laload, 1) := by decide +kernel
theorem dX9_call_68 : decode cX9_call 68 = .ok (.ldc2_w 251, 3) := by decide +kernel
theorem dX9_call_71 : decode cX9_call 71 = .ok (.ldc2_w 251, 3) := by decide +kernel
theorem dX9_call_74 : decode cX9_call 74 = .ok (.aload_n 0, 1) := by decide +kernel
theorem dX9_call_75 : decode cX9_call 75 = .ok (.getfield 204, 3) := by decide +kernel
theorem dX9_call_78 : decode cX9_call 78 = .ok (.i2l, 1) := by decide +kernel
theorem dX9_call_79 : decode cX9_call 79 = .ok (.ladd, 1) := by decide +kernel
theorem dX9_call_80 : decode cX9_call 80 = .ok (.lconst 1, 1) := by decide +kernel
theorem dX9_call_81 : decode cX9_call 81 = .ok (.lsub, 1) := by decide +kernel
theorem dX9_call_82 : decode cX9_call 82 = .ok (.invokestatic 132, 3) := by decide +kernel
theorem dX9_call_85 : decode cX9_call 85 = .ok (.ifCond .eq 50, 3) := by decide +kernel
theorem dX9_call_88 : decode cX9_call 88 = .ok (.aload_n 0, 1) := by decide +kernel
theorem dX9_call_89 : decode cX9_call 89 = .ok (.aload_n 0, 1) := by decide +kernel
theorem dX9_call_90 : decode cX9_call 90 = .ok (.getfield 53, 3) := by decide +kernel
theorem dX9_call_93 : decode cX9_call 93 = .ok (.iconst 2, 1) := by decide +kernel
theorem dX9_call_94 : decode cX9_call 94 = .ok (.laload, 1) := by decide +kernel
theorem dX9_call_95 : decode cX9_call 95 = .ok (.aload_n 0, 1) := by decide +kernel
theorem dX9_call_96 : decode cX9_call 96 = .ok (.getfield 34, 3) := by decide +kernel
theorem dX9_call_99 : decode cX9_call 99 = .ok (.iload 4, 2) := by decide +kernel
theorem dX9_call_101 : decode cX9_call 101 = .ok (.iaload, 1) := by decide +kernel
theorem dX9_call_102 : decode cX9_call 102 = .ok (.iconst 0, 1) := by decide +kernel
theorem dX9_call_103 : decode cX9_call 103 = .ok (.invokevirtual 234, 3) := by decide +kernel
theorem dX9_call_106 : decode cX9_call 106 = .ok (.ifCond .eq 29, 3) := by decide +kernel
theorem dX9_call_109 : decode cX9_call 109 = .ok (.iload_n 1, 1) := by decide +kernel
theorem dX9_call_110 : decode cX9_call 110 = .ok (.iconst 2, 1) := by decide +kernel
theorem dX9_call_111 : decode cX9_call 111 = .ok (.if_icmp .ne 26, 3) := by decide +kernel
theorem dX9_call_114 : decode cX9_call 114 = .ok (.aload_n 0, 1) := by decide +kernel
theorem dX9_call_115 : decode cX9_call 115 = .ok (.aload_n 0, 1) := by decide +kernel
theorem dX9_call_116 : decode cX9_call 116 = .ok (.getfield 53, 3) := by decide +kernel
theorem dX9_call_119 : decode cX9_call 119 = .ok (.iconst 3, 1) := by decide +kernel
theorem dX9_call_120 : decode cX9_call 120 = .ok (.laload, 1) := by decide +kernel
theorem dX9_call_121 : decode cX9_call 121 = .ok (.aload_n 0, 1) := by decide +kernel
theorem dX9_call_122 : decode cX9_call 122 = .ok (.getfield 37, 3) := by decide +kernel
theorem dX9_call_125 : decode cX9_call 125 = .ok (.iload 4, 2) := by decide +kernel
theorem dX9_call_127 : decode cX9_call 127 = .ok (.iaload, 1) := by decide +kernel
theorem dX9_call_128 : decode cX9_call 128 = .ok (.iconst 0, 1) := by decide +kernel
theorem dX9_call_129 : decode cX9_call 129 = .ok (.invokevirtual 234, 3) := by decide +kernel
theorem dX9_call_132 : decode cX9_call 132 = .ok (.ifCond .ne 5, 3) := by decide +kernel
theorem dX9_call_135 : decode cX9_call 135 = .ok (.iconst 0, 1) := by decide +kernel
theorem dX9_call_136 : decode cX9_call 136 = .ok (.ireturn, 1) := by decide +kernel
theorem dX9_call_137 : decode cX9_call 137 = .ok (.iconst 0, 1) := by decide +kernel
theorem dX9_call_138 : decode cX9_call 138 = .ok (.istore 5, 2) := by decide +kernel
theorem dX9_call_140 : decode cX9_call 140 = .ok (.iload 5, 2) := by decide +kernel
theorem dX9_call_142 : decode cX9_call 142 = .ok (.aload_n 0, 1) := by decide +kernel
theorem dX9_call_143 : decode cX9_call 143 = .ok (.getfield 34, 3) := by decide +kernel
theorem dX9_call_146 : decode cX9_call 146 = .ok (.iload 4, 2) := by decide +kernel
theorem dX9_call_148 : decode cX9_call 148 = .ok (.iaload, 1) := by decide +kernel
theorem dX9_call_149 : decode cX9_call 149 = .ok (.if_icmp .ge 30, 3) := by decide +kernel
theorem dX9_call_152 : decode cX9_call 152 = .ok (.aload_n 0, 1) := by decide +kernel
theorem dX9_call_153 : decode cX9_call 153 = .ok (.getfield 63, 3) := by decide +kernel
theorem dX9_call_156 : decode cX9_call 156 = .ok (.iload 5, 2) := by decide +kernel
theorem dX9_call_158 : decode cX9_call 158 = .ok (.aload_n 0, 1) := by decide +kernel
theorem dX9_call_159 : decode cX9_call 159 = .ok (.aload_n 0, 1) := by decide +kernel
theorem dX9_call_160 : decode cX9_call 160 = .ok (.getfield 53, 3) := by decide +kernel
theorem dX9_call_163 : decode cX9_call 163 = .ok (.iconst 2, 1) := by decide +kernel
theorem dX9_call_164 : decode cX9_call 164 = .ok (.laload, 1) := by decide +kernel
theorem dX9_call_165 : decode cX9_call 165 = .ok (.iload 5, 2) := by decide +kernel
theorem dX9_call_167 : decode cX9_call 167 = .ok (.i2l, 1) := by decide +kernel
theorem dX9_call_168 : decode cX9_call 168 = .ok (.ladd, 1) := by decide +kernel
theorem dX9_call_169 : decode cX9_call 169 = .ok (.invokevirtual 227, 3) := by decide +kernel
theorem dX9_call_172 : decode cX9_call 172 = .ok (.iastore, 1) := by decide +kernel
theorem dX9_call_173 : decode cX9_call 173 = .ok (.iinc 5 1, 3) := by decide +kernel
theorem dX9_call_176 : decode cX9_call 176 = .ok (.goto (-36), 3) := by decide +kernel
theorem dX9_call_179 : decode cX9_call 179 = .ok (.iconst 0, 1) := by decide +kernel
theorem dX9_call_180 : decode cX9_call 180 = .ok (.istore 5, 2) := by decide +kernel
theorem dX9_call_182 : decode cX9_call 182 = .ok (.iload 5, 2) := by decide +kernel
theorem dX9_call_184 : decode cX9_call 184 = .ok (.aload_n 0, 1) := by decide +kernel
theorem dX9_call_185 : decode cX9_call 185 = .ok (.getfield 37, 3) := by decide +kernel
theorem dX9_call_188 : decode cX9_call 188 = .ok (.iload 4, 2) := by decide +kernel
theorem dX9_call_190 : decode cX9_call 190 = .ok (.iaload, 1) := by decide +kernel
theorem dX9_call_191 : decode cX9_call 191 = .ok (.if_icmp .ge 35, 3) := by decide +kernel
theorem dX9_call_194 : decode cX9_call 194 = .ok (.iload_n 1, 1) := by decide +kernel
theorem dX9_call_195 : decode cX9_call 195 = .ok (.iconst 2, 1) := by decide +kernel
theorem dX9_call_196 : decode cX9_call 196 = .ok (.if_icmp .ne 30, 3) := by decide +kernel
theorem dX9_call_199 : decode cX9_call 199 = .ok (.aload_n 0, 1) := by decide +kernel
theorem dX9_call_200 : decode cX9_call 200 = .ok (.getfield 60, 3) := by decide +kernel
theorem dX9_call_203 : decode cX9_call 203 = .ok (.iload 5, 2) := by decide +kernel
theorem dX9_call_205 : decode cX9_call 205 = .ok (.aload_n 0, 1) := by decide +kernel
theorem dX9_call_206 : decode cX9_call 206 = .ok (.aload_n 0, 1) := by decide +kernel
theorem dX9_call_207 : decode cX9_call 207 = .ok (.getfield 53, 3) := by decide +kernel
theorem dX9_call_210 : decode cX9_call 210 = .ok (.iconst 3, 1) := by decide +kernel
theorem dX9_call_211 : decode cX9_call 211 = .ok (.laload, 1) := by decide +kernel
theorem dX9_call_212 : decode cX9_call 212 = .ok (.iload 5, 2) := by decide +kernel
theorem dX9_call_214 : decode cX9_call 214 = .ok (.i2l, 1) := by decide +kernel
theorem dX9_call_215 : decode cX9_call 215 = .ok (.ladd, 1) := by decide +kernel
theorem dX9_call_216 : decode cX9_call 216 = .ok (.invokevirtual 227, 3) := by decide +kernel
theorem dX9_call_219 : decode cX9_call 219 = .ok (.iastore, 1) := by decide +kernel
theorem dX9_call_220 : decode cX9_call 220 = .ok (.iinc 5 1, 3) := by decide +kernel
theorem dX9_call_223 : decode cX9_call 223 = .ok (.goto (-41), 3) := by decide +kernel
theorem dX9_call_226 : decode cX9_call 226 = .ok (.aload_n 0, 1) := by decide +kernel

theorem dX9_goTo_0 : decode cX9_goTo 0 = .ok (.aload_n 0, 1) := by decide +kernel
theorem dX9_goTo_1 : decode cX9_goTo 1 = .ok (.getfield 66, 3) := by decide +kernel
theorem dX9_goTo_4 : decode cX9_goTo 4 = .ok (.iload_n 1, 1) := by decide +kernel
theorem dX9_goTo_5 : decode cX9_goTo 5 = .ok (.baload, 1) := by decide +kernel
theorem dX9_goTo_6 : decode cX9_goTo 6 = .ok (.ifCond .ne 7, 3) := by decide +kernel
theorem dX9_goTo_9 : decode cX9_goTo 9 = .ok (.iconst 1, 1) := by decide +kernel
theorem dX9_goTo_10 : decode cX9_goTo 10 = .ok (.goto 4, 3) := by decide +kernel
theorem dX9_goTo_13 : decode cX9_goTo 13 = .ok (.iconst 0, 1) := by decide +kernel
theorem dX9_goTo_14 : decode cX9_goTo 14 = .ok (.istore_n 2, 1) := by decide +kernel
theorem dX9_goTo_15 : decode cX9_goTo 15 = .ok (.aload_n 0, 1) := by decide +kernel
theorem dX9_goTo_16 : decode cX9_goTo 16 = .ok (.getfield 66, 3) := by decide +kernel
theorem dX9_goTo_19 : decode cX9_goTo 19 = .ok (.iload_n 1, 1) := by decide +kernel
theorem dX9_goTo_20 : decode cX9_goTo 20 = .ok (.iconst 1, 1) := by decide +kernel
theorem dX9_goTo_21 : decode cX9_goTo 21 = .ok (.bastore, 1) := by decide +kernel
theorem dX9_goTo_22 : decode cX9_goTo 22 = .ok (.iconst 0, 1) := by decide +kernel
theorem dX9_goTo_23 : decode cX9_goTo 23 = .ok (.istore_n 3, 1) := by decide +kernel
theorem dX9_goTo_24 : decode cX9_goTo 24 = .ok (.iload_n 3, 1) := by decide +kernel
theorem dX9_goTo_25 : decode cX9_goTo 25 = .ok (.bipush 11, 2) := by decide +kernel
theorem dX9_goTo_27 : decode cX9_goTo 27 = .ok (.if_icmp .ge 248, 3) := by decide +kernel
theorem dX9_goTo_30 : decode cX9_goTo 30 = .ok (.bipush 11, 2) := by decide +kernel
theorem dX9_goTo_32 : decode cX9_goTo 32 = .ok (.iload_n 1, 1) := by decide +kernel
theorem dX9_goTo_33 : decode cX9_goTo 33 = .ok (.imul, 1) := by decide +kernel
theorem dX9_goTo_34 : decode cX9_goTo 34 = .ok (.iload_n 3, 1) := by decide +kernel
theorem dX9_goTo_35 : decode cX9_goTo 35 = .ok (.iadd, 1) := by decide +kernel
theorem dX9_goTo_36 : decode cX9_goTo 36 = .ok (.istore 4, 2) := by decide +kernel
theorem dX9_goTo_38 : decode cX9_goTo 38 = .ok (.aload_n 0, 1) := by decide +kernel
theorem dX9_goTo_39 : decode cX9_goTo 39 = .ok (.iload_n 3, 1) := by decide +kernel
theorem dX9_goTo_40 : decode cX9_goTo 40 = .ok (.iload_n 2, 1) := by decide +kernel
theorem dX9_goTo_41 : decode cX9_goTo 41 = .ok (.ifCond .eq 12, 3) := by decide +kernel
theorem dX9_goTo_44 : decode cX9_goTo 44 = .ok (.aload_n 0, 1) := by decide +kernel
theorem dX9_goTo_45 : decode cX9_goTo 45 = .ok (.getfield 106, 3) := by decide +kernel
theorem dX9_goTo_48 : decode cX9_goTo 48 = .ok (.iload_n 3, 1) := by decide +kernel
theorem dX9_goTo_49 : decode cX9_goTo 49 = .ok (.iaload, 1) := by decide +kernel
theorem dX9_goTo_50 : decode cX9_goTo 50 = .ok (.goto 10, 3) := by decide +kernel
theorem dX9_goTo_53 : decode cX9_goTo 53 = .ok (.aload_n 0, 1) := by decide +kernel
theorem dX9_goTo_54 : decode cX9_goTo 54 = .ok (.getfield 72, 3) := by decide +kernel
theorem dX9_goTo_57 : decode cX9_goTo 57 = .ok (.iload 4, 2) := by decide +kernel
theorem dX9_goTo_59 : decode cX9_goTo 59 = .ok (.iaload, 1) := by decide +kernel
theorem dX9_goTo_60 : decode cX9_goTo 60 = .ok (.iload_n 2, 1) := by decide +kernel
theorem dX9_goTo_61 : decode cX9_goTo 61 = .ok (.ifCond .eq 12, 3) := by decide +kernel
theorem dX9_goTo_64 : decode cX9_goTo 64 = .ok (.aload_n 0, 1) := by decide +kernel
theorem dX9_goTo_65 : decode cX9_goTo 65 = .ok (.getfield 109, 3) := by decide +kernel
theorem dX9_goTo_68 : decode cX9_goTo 68 = .ok (.iload_n 3, 1) := by decide +kernel
theorem dX9_goTo_69 : decode cX9_goTo 69 = .ok (.laload, 1) := by decide +kernel
theorem dX9_goTo_70 : decode cX9_goTo 70 = .ok (.goto 10, 3) := by decide +kernel
theorem dX9_goTo_73 : decode cX9_goTo 73 = .ok (.aload_n 0, 1) := by decide +kernel
theorem dX9_goTo_74 : decode cX9_goTo 74 = .ok (.getfield 75, 3) := by decide +kernel
theorem dX9_goTo_77 : decode cX9_goTo 77 = .ok (.iload 4, 2) := by decide +kernel
theorem dX9_goTo_79 : decode cX9_goTo 79 = .ok (.laload, 1) := by decide +kernel
theorem dX9_goTo_80 : decode cX9_goTo 80 = .ok (.iload_n 2, 1) := by decide +kernel
theorem dX9_goTo_81 : decode cX9_goTo 81 = .ok (.ifCond .eq 12, 3) := by decide +kernel
theorem dX9_goTo_84 : decode cX9_goTo 84 = .ok (.aload_n 0, 1) := by decide +kernel
theorem dX9_goTo_85 : decode cX9_goTo 85 = .ok (.getfield 112, 3) := by decide +kernel
theorem dX9_goTo_88 : decode cX9_goTo 88 = .ok (.iload_n 3, 1) := by decide +kernel
theorem dX9_goTo_89 : decode cX9_goTo 89 = .ok (.laload, 1) := by decide +kernel
theorem dX9_goTo_90 : decode cX9_goTo 90 = .ok (.goto 10, 3) := by decide +kernel
theorem dX9_goTo_93 : decode cX9_goTo 93 = .ok (.aload_n 0, 1) := by decide +kernel
theorem dX9_goTo_94 : decode cX9_goTo 94 = .ok (.getfield 78, 3) := by decide +kernel
theorem dX9_goTo_97 : decode cX9_goTo 97 = .ok (.iload 4, 2) := by decide +kernel
theorem dX9_goTo_99 : decode cX9_goTo 99 = .ok (.laload, 1) := by decide +kernel
theorem dX9_goTo_100 : decode cX9_goTo 100 = .ok (.iload_n 2, 1) := by decide +kernel
theorem dX9_goTo_101 : decode cX9_goTo 101 = .ok (.ifCond .eq 12, 3) := by decide +kernel
theorem dX9_goTo_104 : decode cX9_goTo 104 = .ok (.aload_n 0, 1) := by decide +kernel
theorem dX9_goTo_105 : decode cX9_goTo 105 = .ok (.getfield 115, 3) := by decide +kernel
theorem dX9_goTo_108 : decode cX9_goTo 108 = .ok (.iload_n 3, 1) := by decide +kernel
theorem dX9_goTo_109 : decode cX9_goTo 109 = .ok (.iaload, 1) := by decide +kernel
theorem dX9_goTo_110 : decode cX9_goTo 110 = .ok (.goto 10, 3) := by decide +kernel
theorem dX9_goTo_113 : decode cX9_goTo 113 = .ok (.aload_n 0, 1) := by decide +kernel
theorem dX9_goTo_114 : decode cX9_goTo 114 = .ok (.getfield 81, 3) := by decide +kernel
theorem dX9_goTo_117 : decode cX9_goTo 117 = .ok (.iload 4, 2) := by decide +kernel
theorem dX9_goTo_119 : decode cX9_goTo 119 = .ok (.iaload, 1) := by decide +kernel
theorem dX9_goTo_120 : decode cX9_goTo 120 = .ok (.iload_n 2, 1) := by decide +kernel
theorem dX9_goTo_121 : decode cX9_goTo 121 = .ok (.ifCond .eq 12, 3) := by decide +kernel
theorem dX9_goTo_124 : decode cX9_goTo 124 = .ok (.aload_n 0, 1) := by decide +kernel
theorem dX9_goTo_125 : decode cX9_goTo 125 = .ok (.getfield 118, 3) := by decide +kernel
theorem dX9_goTo_128 : decode cX9_goTo 128 = .ok (.iload_n 3, 1) := by decide +kernel
theorem dX9_goTo_129 : decode cX9_goTo 129 = .ok (.iaload, 1) := by decide +kernel
theorem dX9_goTo_130 : decode cX9_goTo 130 = .ok (.goto 10, 3) := by decide +kernel
theorem dX9_goTo_133 : decode cX9_goTo 133 = .ok (.aload_n 0, 1) := by decide +kernel
theorem dX9_goTo_134 : decode cX9_goTo 134 = .ok (.getfield 84, 3) := by decide +kernel
theorem dX9_goTo_137 : decode cX9_goTo 137 = .ok (.iload 4, 2) := by decide +kernel
theorem dX9_goTo_139 : decode cX9_goTo 139 = .ok (.iaload, 1) := by decide +kernel
theorem dX9_goTo_140 : decode cX9_goTo 140 = .ok (.invokevirtual 344, 3) := by decide +kernel
theorem dX9_goTo_143 : decode cX9_goTo 143 = .ok (.aload_n 0, 1) := by decide +kernel
theorem dX9_goTo_144 : decode cX9_goTo 144 = .ok (.getfield 72, 3) := by decide +kernel
theorem dX9_goTo_147 : decode cX9_goTo 147 = .ok (.iload 4, 2) := by decide +kernel
theorem dX9_goTo_149 : decode cX9_goTo 149 = .ok (.iload_n 2, 1) := by decide +kernel
theorem dX9_goTo_150 : decode cX9_goTo 150 = .ok (.ifCond .eq 12, 3) := by decide +kernel
theorem dX9_goTo_153 : decode cX9_goTo 153 = .ok (.aload_n 0, 1) := by decide +kernel
theorem dX9_goTo_154 : decode cX9_goTo 154 = .ok (.getfield 106, 3) := by decide +kernel
theorem dX9_goTo_157 : decode cX9_goTo 157 = .ok (.iload_n 3, 1) := by decide +kernel
theorem dX9_goTo_158 : decode cX9_goTo 158 = .ok (.iaload, 1) := by decide +kernel
theorem dX9_goTo_159 : decode cX9_goTo 159 = .ok (.goto 7, 3) := by decide +kernel
theorem dX9_goTo_162 : decode cX9_goTo 162 = .ok (.aload_n 0, 1) := by decide +kernel
theorem dX9_goTo_163 : decode cX9_goTo 163 = .ok (.getfield 329, 3) := by decide +kernel
theorem dX9_goTo_166 : decode cX9_goTo 166 = .ok (.iastore, 1) := by decide +kernel
theorem dX9_goTo_167 : decode cX9_goTo 167 = .ok (.aload_n 0, 1) := by decide +kernel
theorem dX9_goTo_168 : decode cX9_goTo 168 = .ok (.getfield 75, 3) := by decide +kernel
theorem dX9_goTo_171 : decode cX9_goTo 171 = .ok (.iload 4, 2) := by decide +kernel
theorem dX9_goTo_173 : decode cX9_goTo 173 = .ok (.iload_n 2, 1) := by decide +kernel
theorem dX9_goTo_174 : decode cX9_goTo 174 = .ok (.ifCond .eq 12, 3) := by decide +kernel
theorem dX9_goTo_177 : decode cX9_goTo 177 = .ok (.aload_n 0, 1) := by decide +kernel
theorem dX9_goTo_178 : decode cX9_goTo 178 = .ok (.getfield 109, 3) := by decide +kernel
theorem dX9_goTo_181 : decode cX9_goTo 181 = .ok (.iload_n 3, 1) := by decide +kernel
theorem dX9_goTo_182 : decode cX9_goTo 182 = .ok (.laload, 1) := by decide +kernel
theorem dX9_goTo_183 : decode cX9_goTo 183 = .ok (.goto 7, 3) := by decide +kernel
theorem dX9_goTo_186 : decode cX9_goTo 186 = .ok (.aload_n 0, 1) := by decide +kernel
theorem dX9_goTo_187 : decode cX9_goTo 187 = .ok (.getfield 332, 3) := by decide +kernel
theorem dX9_goTo_190 : decode cX9_goTo 190 = .ok (.lastore, 1) := by decide +kernel
theorem dX9_goTo_191 : decode cX9_goTo 191 = .ok (.aload_n 0, 1) := by decide +kernel
theorem dX9_goTo_192 : decode cX9_goTo 192 = .ok (.getfield 78, 3) := by decide +kernel
theorem dX9_goTo_195 : decode cX9_goTo 195 = .ok (.iload 4, 2) := by decide +kernel
theorem dX9_goTo_197 : decode cX9_goTo 197 = .ok (.iload_n 2, 1) := by decide +kernel
theorem dX9_goTo_198 : decode cX9_goTo 198 = .ok (.ifCond .eq 12, 3) := by decide +kernel
theorem dX9_goTo_201 : decode cX9_goTo 201 = .ok (.aload_n 0, 1) := by decide +kernel
theorem dX9_goTo_202 : decode cX9_goTo 202 = .ok (.getfield 112, 3) := by decide +kernel
theorem dX9_goTo_205 : decode cX9_goTo 205 = .ok (.iload_n 3, 1) := by decide +kernel
theorem dX9_goTo_206 : decode cX9_goTo 206 = .ok (.laload, 1) := by decide +kernel
theorem dX9_goTo_207 : decode cX9_goTo 207 = .ok (.goto 7, 3) := by decide +kernel
theorem dX9_goTo_210 : decode cX9_goTo 210 = .ok (.aload_n 0, 1) := by decide +kernel
theorem dX9_goTo_211 : decode cX9_goTo 211 = .ok (.getfield 335, 3) := by decide +kernel
theorem dX9_goTo_214 : decode cX9_goTo 214 = .ok (.lastore, 1) := by decide +kernel
theorem dX9_goTo_215 : decode cX9_goTo 215 = .ok (.aload_n 0, 1) := by decide +kernel
theorem dX9_goTo_216 : decode cX9_goTo 216 = .ok (.getfield 81, 3) := by decide +kernel
theorem dX9_goTo_219 : decode cX9_goTo 219 = .ok (.iload 4, 2) := by decide +kernel
theorem dX9_goTo_221 : decode cX9_goTo 221 = .ok (.aload_n 0, 1) := by decide +kernel
theorem dX9_goTo_222 : decode cX9_goTo 222 = .ok (.getfield 72, 3) := by decide +kernel
theorem dX9_goTo_225 : decode cX9_goTo 225 = .ok (.iload 4, 2) := by decide +kernel
theorem dX9_goTo_227 : decode cX9_goTo 227 = .ok (.iaload, 1) := by decide +kernel
theorem dX9_goTo_228 : decode cX9_goTo 228 = .ok (.ifCond .ne 7, 3) := by decide +kernel

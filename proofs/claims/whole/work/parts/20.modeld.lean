theorem dX9_change_0 : decode cX9_change 0 = .ok (.lload_n 3, 1) := by decide +kernel
theorem dX9_change_1 : decode cX9_change 1 = .ok (.lconst 0, 1) := by decide +kernel
theorem dX9_change_2 : decode cX9_change 2 = .ok (.ldc2_w 242, 3) := by decide +kernel
theorem dX9_change_5 : decode cX9_change 5 = .ok (.invokestatic 132, 3) := by decide +kernel
theorem dX9_change_8 : decode cX9_change 8 = .ok (.ifCond .eq 44, 3) := by decide +kernel
theorem dX9_change_11 : decode cX9_change 11 = .ok (.aload_n 0, 1) := by decide +kernel
theorem dX9_change_12 : decode cX9_change 12 = .ok (.getfield 31, 3) := by decide +kernel
theorem dX9_change_15 : decode cX9_change 15 = .ok (.iload_n 1, 1) := by decide +kernel
theorem dX9_change_16 : decode cX9_change 16 = .ok (.iaload, 1) := by decide +kernel
theorem dX9_change_17 : decode cX9_change 17 = .ok (.ifCond .ne 13, 3) := by decide +kernel
theorem dX9_change_20 : decode cX9_change 20 = .ok (.lload_n 3, 1) := by decide +kernel
theorem dX9_change_21 : decode cX9_change 21 = .ok (.lconst 1, 1) := by decide +kernel
theorem dX9_change_22 : decode cX9_change 22 = .ok (.lcmp, 1) := by decide +kernel
theorem dX9_change_23 : decode cX9_change 23 = .ok (.ifCond .eq 29, 3) := by decide +kernel
theorem dX9_change_26 : decode cX9_change 26 = .ok (.iload_n 2, 1) := by decide +kernel
theorem dX9_change_27 : decode cX9_change 27 = .ok (.ifCond .lt 25, 3) := by decide +kernel
theorem dX9_change_30 : decode cX9_change 30 = .ok (.lload_n 3, 1) := by decide +kernel
theorem dX9_change_31 : decode cX9_change 31 = .ok (.lconst 1, 1) := by decide +kernel
theorem dX9_change_32 : decode cX9_change 32 = .ok (.lcmp, 1) := by decide +kernel
theorem dX9_change_33 : decode cX9_change 33 = .ok (.ifCond .ne 7, 3) := by decide +kernel
theorem dX9_change_36 : decode cX9_change 36 = .ok (.iload_n 2, 1) := by decide +kernel
theorem dX9_change_37 : decode cX9_change 37 = .ok (.ifCond .ge 15, 3) := by decide +kernel
theorem dX9_change_40 : decode cX9_change 40 = .ok (.lload_n 3, 1) := by decide +kernel
theorem dX9_change_41 : decode cX9_change 41 = .ok (.ldc2_w 242, 3) := by decide +kernel
theorem dX9_change_44 : decode cX9_change 44 = .ok (.lcmp, 1) := by decide +kernel
theorem dX9_change_45 : decode cX9_change 45 = .ok (.ifCond .ne 11, 3) := by decide +kernel
theorem dX9_change_48 : decode cX9_change 48 = .ok (.iload_n 2, 1) := by decide +kernel
theorem dX9_change_49 : decode cX9_change 49 = .ok (.ifCond .ge 7, 3) := by decide +kernel
theorem dX9_change_52 : decode cX9_change 52 = .ok (.ldc2_w 187, 3) := by decide +kernel
theorem dX9_change_55 : decode cX9_change 55 = .ok (.lreturn, 1) := by decide +kernel
theorem dX9_change_56 : decode cX9_change 56 = .ok (.iload_n 2, 1) := by decide +kernel
theorem dX9_change_57 : decode cX9_change 57 = .ok (.istore 5, 2) := by decide +kernel
theorem dX9_change_59 : decode cX9_change 59 = .ok (.aload_n 0, 1) := by decide +kernel
theorem dX9_change_60 : decode cX9_change 60 = .ok (.getfield 40, 3) := by decide +kernel
theorem dX9_change_63 : decode cX9_change 63 = .ok (.iload_n 1, 1) := by decide +kernel
theorem dX9_change_64 : decode cX9_change 64 = .ok (.iaload, 1) := by decide +kernel
theorem dX9_change_65 : decode cX9_change 65 = .ok (.iconst 1, 1) := by decide +kernel
theorem dX9_change_66 : decode cX9_change 66 = .ok (.isub, 1) := by decide +kernel
theorem dX9_change_67 : decode cX9_change 67 = .ok (.istore 6, 2) := by decide +kernel
theorem dX9_change_69 : decode cX9_change 69 = .ok (.iload 6, 2) := by decide +kernel
theorem dX9_change_71 : decode cX9_change 71 = .ok (.ifCond .lt 37, 3) := by decide +kernel
theorem dX9_change_74 : decode cX9_change 74 = .ok (.iload_n 2, 1) := by decide +kernel
theorem dX9_change_75 : decode cX9_change 75 = .ok (.ifCond .ge 33, 3) := by decide +kernel
theorem dX9_change_78 : decode cX9_change 78 = .ok (.aload_n 0, 1) := by decide +kernel
theorem dX9_change_79 : decode cX9_change 79 = .ok (.getfield 46, 3) := by decide +kernel
theorem dX9_change_82 : decode cX9_change 82 = .ok (.bipush 32, 2) := by decide +kernel
theorem dX9_change_84 : decode cX9_change 84 = .ok (.iload_n 1, 1) := by decide +kernel
theorem dX9_change_85 : decode cX9_change 85 = .ok (.imul, 1) := by decide +kernel
theorem dX9_change_86 : decode cX9_change 86 = .ok (.iload 6, 2) := by decide +kernel
theorem dX9_change_88 : decode cX9_change 88 = .ok (.iadd, 1) := by decide +kernel
theorem dX9_change_89 : decode cX9_change 89 = .ok (.baload, 1) := by decide +kernel
theorem dX9_change_90 : decode cX9_change 90 = .ok (.ifCond .eq 8, 3) := by decide +kernel
theorem dX9_change_93 : decode cX9_change 93 = .ok (.iload 5, 2) := by decide +kernel
theorem dX9_change_95 : decode cX9_change 95 = .ok (.goto 5, 3) := by decide +kernel
theorem dX9_change_98 : decode cX9_change 98 = .ok (.iload 6, 2) := by decide +kernel
theorem dX9_change_100 : decode cX9_change 100 = .ok (.istore 5, 2) := by decide +kernel
theorem dX9_change_102 : decode cX9_change 102 = .ok (.iinc 6 (-1), 3) := by decide +kernel
theorem dX9_change_105 : decode cX9_change 105 = .ok (.goto (-36), 3) := by decide +kernel
theorem dX9_change_108 : decode cX9_change 108 = .ok (.iload 5, 2) := by decide +kernel
theorem dX9_change_110 : decode cX9_change 110 = .ok (.ifCond .ge 7, 3) := by decide +kernel
theorem dX9_change_113 : decode cX9_change 113 = .ok (.ldc2_w 187, 3) := by decide +kernel
theorem dX9_change_116 : decode cX9_change 116 = .ok (.lreturn, 1) := by decide +kernel
theorem dX9_change_117 : decode cX9_change 117 = .ok (.bipush 32, 2) := by decide +kernel
theorem dX9_change_119 : decode cX9_change 119 = .ok (.iload_n 1, 1) := by decide +kernel
theorem dX9_change_120 : decode cX9_change 120 = .ok (.imul, 1) := by decide +kernel
theorem dX9_change_121 : decode cX9_change 121 = .ok (.iload 5, 2) := by decide +kernel
theorem dX9_change_123 : decode cX9_change 123 = .ok (.iadd, 1) := by decide +kernel
theorem dX9_change_124 : decode cX9_change 124 = .ok (.istore 6, 2) := by decide +kernel
theorem dX9_change_126 : decode cX9_change 126 = .ok (.iload_n 2, 1) := by decide +kernel
theorem dX9_change_127 : decode cX9_change 127 = .ok (.ifCond .ge 51, 3) := by decide +kernel
theorem dX9_change_130 : decode cX9_change 130 = .ok (.aload_n 0, 1) := by decide +kernel
theorem dX9_change_131 : decode cX9_change 131 = .ok (.getfield 46, 3) := by decide +kernel
theorem dX9_change_134 : decode cX9_change 134 = .ok (.iload 6, 2) := by decide +kernel
theorem dX9_change_136 : decode cX9_change 136 = .ok (.iconst 1, 1) := by decide +kernel
theorem dX9_change_137 : decode cX9_change 137 = .ok (.bastore, 1) := by decide +kernel
theorem dX9_change_138 : decode cX9_change 138 = .ok (.iconst 0, 1) := by decide +kernel
theorem dX9_change_139 : decode cX9_change 139 = .ok (.istore 7, 2) := by decide +kernel
theorem dX9_change_141 : decode cX9_change 141 = .ok (.iload 7, 2) := by decide +kernel
theorem dX9_change_143 : decode cX9_change 143 = .ok (.aload_n 0, 1) := by decide +kernel
theorem dX9_change_144 : decode cX9_change 144 = .ok (.getfield 34, 3) := by decide +kernel
theorem dX9_change_147 : decode cX9_change 147 = .ok (.iload_n 1, 1) := by decide +kernel
theorem dX9_change_148 : decode cX9_change 148 = .ok (.iaload, 1) := by decide +kernel
theorem dX9_change_149 : decode cX9_change 149 = .ok (.if_icmp .ge 29, 3) := by decide +kernel
theorem dX9_change_152 : decode cX9_change 152 = .ok (.aload_n 0, 1) := by decide +kernel
theorem dX9_change_153 : decode cX9_change 153 = .ok (.getfield 50, 3) := by decide +kernel
theorem dX9_change_156 : decode cX9_change 156 = .ok (.bipush 8, 2) := by decide +kernel
theorem dX9_change_158 : decode cX9_change 158 = .ok (.iload 6, 2) := by decide +kernel
theorem dX9_change_160 : decode cX9_change 160 = .ok (.imul, 1) := by decide +kernel
theorem dX9_change_161 : decode cX9_change 161 = .ok (.iload 7, 2) := by decide +kernel
theorem dX9_change_163 : decode cX9_change 163 = .ok (.iadd, 1) := by decide +kernel
theorem dX9_change_164 : decode cX9_change 164 = .ok (.aload_n 0, 1) := by decide +kernel
theorem dX9_change_165 : decode cX9_change 165 = .ok (.getfield 63, 3) := by decide +kernel
theorem dX9_change_168 : decode cX9_change 168 = .ok (.iload 7, 2) := by decide +kernel
theorem dX9_change_170 : decode cX9_change 170 = .ok (.iaload, 1) := by decide +kernel
theorem dX9_change_171 : decode cX9_change 171 = .ok (.iastore, 1) := by decide +kernel
theorem dX9_change_172 : decode cX9_change 172 = .ok (.iinc 7 1, 3) := by decide +kernel
theorem dX9_change_175 : decode cX9_change 175 = .ok (.goto (-34), 3) := by decide +kernel
theorem dX9_change_178 : decode cX9_change 178 = .ok (.iconst 0, 1) := by decide +kernel
theorem dX9_change_179 : decode cX9_change 179 = .ok (.istore 7, 2) := by decide +kernel
theorem dX9_change_181 : decode cX9_change 181 = .ok (.iload 7, 2) := by decide +kernel
theorem dX9_change_183 : decode cX9_change 183 = .ok (.aload_n 0, 1) := by decide +kernel
theorem dX9_change_184 : decode cX9_change 184 = .ok (.getfield 37, 3) := by decide +kernel
theorem dX9_change_187 : decode cX9_change 187 = .ok (.iload_n 1, 1) := by decide +kernel
theorem dX9_change_188 : decode cX9_change 188 = .ok (.iaload, 1) := by decide +kernel
theorem dX9_change_189 : decode cX9_change 189 = .ok (.if_icmp .ge 29, 3) := by decide +kernel
theorem dX9_change_192 : decode cX9_change 192 = .ok (.aload_n 0, 1) := by decide +kernel
theorem dX9_change_193 : decode cX9_change 193 = .ok (.getfield 43, 3) := by decide +kernel
theorem dX9_change_196 : decode cX9_change 196 = .ok (.bipush 32, 2) := by decide +kernel
theorem dX9_change_198 : decode cX9_change 198 = .ok (.iload 6, 2) := by decide +kernel
theorem dX9_change_200 : decode cX9_change 200 = .ok (.imul, 1) := by decide +kernel
theorem dX9_change_201 : decode cX9_change 201 = .ok (.iload 7, 2) := by decide +kernel
theorem dX9_change_203 : decode cX9_change 203 = .ok (.iadd, 1) := by decide +kernel
theorem dX9_change_204 : decode cX9_change 204 = .ok (.aload_n 0, 1) := by decide +kernel
theorem dX9_change_205 : decode cX9_change 205 = .ok (.getfield 60, 3) := by decide +kernel
theorem dX9_change_208 : decode cX9_change 208 = .ok (.iload 7, 2) := by decide +kernel
theorem dX9_change_210 : decode cX9_change 210 = .ok (.iaload, 1) := by decide +kernel
theorem dX9_change_211 : decode cX9_change 211 = .ok (.iastore, 1) := by decide +kernel
theorem dX9_change_212 : decode cX9_change 212 = .ok (.iinc 7 1, 3) := by decide +kernel
theorem dX9_change_215 : decode cX9_change 215 = .ok (.goto (-34), 3) := by decide +kernel
theorem dX9_change_218 : decode cX9_change 218 = .ok (.lconst 0, 1) := by decide +kernel
theorem dX9_change_219 : decode cX9_change 219 = .ok (.lreturn, 1) := by decide +kernel
theorem dX9_call_0 : decode cX9_call 0 = .ok (.aload_n 0, 1) := by decide +kernel
theorem dX9_call_1 : decode cX9_call 1 = .ok (.getfield 244, 3) := by decide +kernel
theorem dX9_call_4 : decode cX9_call 4 = .ok (.lstore_n 2, 1) := by decide +kernel
theorem dX9_call_5 : decode cX9_call 5 = .ok (.iload_n 1, 1) := by decide +kernel
theorem dX9_call_6 : decode cX9_call 6 = .ok (.bipush 6, 2) := by decide +kernel
theorem dX9_call_8 : decode cX9_call 8 = .ok (.if_icmp .ne 36, 3) := by decide +kernel
theorem dX9_call_11 : decode cX9_call 11 = .ok (.aload_n 0, 1) := by decide +kernel
theorem dX9_call_12 : decode cX9_call 12 = .ok (.getfield 57, 3) := by decide +kernel
theorem dX9_call_15 : decode cX9_call 15 = .ok (.aload_n 0, 1) := by decide +kernel
theorem dX9_call_16 : decode cX9_call 16 = .ok (.getfield 248, 3) := by decide +kernel
theorem dX9_call_19 : decode cX9_call 19 = .ok (.bipush 32, 2) := by decide +kernel
theorem dX9_call_21 : decode cX9_call 21 = .ok (.irem, 1) := by decide +kernel
theorem dX9_call_22 : decode cX9_call 22 = .ok (.aload_n 0, 1) := by decide +kernel
theorem dX9_call_23 : decode cX9_call 23 = .ok (.getfield 53, 3) := by decide +kernel
theorem dX9_call_26 : decode cX9_call 26 = .ok (.iconst 1, 1) := by decide +kernel
theorem dX9_call_27 : decode cX9_call 27 = .ok (.laload, 1) := by decide +kernel
theorem dX9_call_28 : decode cX9_call 28 = .ok (.lastore, 1) := by decide +kernel
theorem dX9_call_29 : decode cX9_call 29 = .ok (.aload_n 0, 1) := by decide +kernel
theorem dX9_call_30 : decode cX9_call 30 = .ok (.dup, 1) := by decide +kernel
theorem dX9_call_31 : decode cX9_call 31 = .ok (.getfield 248, 3) := by decide +kernel
theorem dX9_call_34 : decode cX9_call 34 = .ok (.iconst 1, 1) := by decide +kernel
theorem dX9_call_35 : decode cX9_call 35 = .ok (.iadd, 1) := by decide +kernel
theorem dX9_call_36 : decode cX9_call 36 = .ok (.putfield 248, 3) := by decide +kernel
theorem dX9_call_39 : decode cX9_call 39 = .ok (.lconst 0, 1) := by decide +kernel
theorem dX9_call_40 : decode cX9_call 40 = .ok (.lstore_n 2, 1) := by decide +kernel
theorem dX9_call_41 : decode cX9_call 41 = .ok (.goto 306, 3) := by decide +kernel
theorem dX9_call_44 : decode cX9_call 44 = .ok (.iload_n 1, 1) := by decide +kernel
theorem dX9_call_45 : decode cX9_call 45 = .ok (.iconst 4, 1) := by decide +kernel
theorem dX9_call_46 : decode cX9_call 46 = .ok (.if_icmp .ge 301, 3) := by decide +kernel
theorem dX9_call_49 : decode cX9_call 49 = .ok (.aload_n 0, 1) := by decide +kernel
theorem dX9_call_50 : decode cX9_call 50 = .ok (.getfield 53, 3) := by decide +kernel
theorem dX9_call_53 : decode cX9_call 53 = .ok (.iconst 1, 1) := by decide +kernel
theorem dX9_call_54 : decode cX9_call 54 = .ok (.laload, 1) := by decide +kernel
theorem dX9_call_55 : decode cX9_call 55 = .ok (.ldc2_w 251, 3) := by decide +kernel
theorem dX9_call_58 : decode cX9_call 58 = .ok (.lsub, 1) := by decide +kernel
theorem dX9_call_59 : decode cX9_call 59 = .ok (.l2i, 1) := by decide +kernel
theorem dX9_call_60 : decode cX9_call 60 = .ok (.istore 4, 2) := by decide +kernel
theorem dX9_call_62 : decode cX9_call 62 = .ok (.aload_n 0, 1) := by decide +kernel
theorem dX9_call_63 : decode cX9_call 63 = .ok (.getfield 53, 3) := by decide +kernel
theorem dX9_call_66 : decode cX9_call 66 = .ok (.iconst 1, 1) := by decide +kernel
theorem dX9_call_67 : decode cX9_call 67 = .ok (.laload, 1) := by decide +kernel
theorem dX9_call_68 : decode cX9_call 68 = .ok (.ldc2_w 251, 3) := by decide +kernel
theorem dX9_call_71 : decode cX9_call 71 = .ok (.ldc2_w 251, 3) := by decide +kernel
theorem dX9_call_74 : decode cX9_call 74 = .ok (.aload_n 0, 1) := by decide +kernel
theorem dX9_call_75 : decode cX9_call 75 = .ok (.getfield 204, 3) := by decide +kernel
theorem dX9_call_78 : decode cX9_call 78 = .ok (.i2l, 1) := by decide +kernel
theorem dX9_call_79 : decode cX9_call 79 = .ok (.ladd, 1) := by decide +kernel
theorem dX9_call_80 : decode cX9_call 80 = .ok (.lconst 1, 1) := by decide +kernel
theorem dX9_call_81 : decode cX9_call 81 = .ok (.lsub, 1) := by decide +kernel
theorem dX9_call_82 : decode cX9_call 82 = .ok (.invokestatic 132, 3) := by decide +kernel
theorem dX9_call_85 : decode cX9_call 85 = .ok (.ifCond .eq 50, 3) := by decide +kernel
theorem dX9_call_88 : decode cX9_call 88 = .ok (.aload_n 0, 1) := by decide +kernel
theorem dX9_call_89 : decode cX9_call 89 = .ok (.aload_n 0, 1) := by decide +kernel
theorem dX9_call_90 : decode cX9_call 90 = .ok (.getfield 53, 3) := by decide +kernel
theorem dX9_call_93 : decode cX9_call 93 = .ok (.iconst 2, 1) := by decide +kernel
theorem dX9_call_94 : decode cX9_call 94 = .ok (.laload, 1) := by decide +kernel
theorem dX9_call_95 : decode cX9_call 95 = .ok (.aload_n 0, 1) := by decide +kernel
theorem dX9_call_96 : decode cX9_call 96 = .ok (.getfield 34, 3) := by decide +kernel
theorem dX9_call_99 : decode cX9_call 99 = .ok (.iload 4, 2) := by decide +kernel
theorem dX9_call_101 : decode cX9_call 101 = .ok (.iaload, 1) := by decide +kernel
theorem dX9_call_102 : decode cX9_call 102 = .ok (.iconst 0, 1) := by decide +kernel
theorem dX9_call_103 : decode cX9_call 103 = .ok (.invokevirtual 234, 3) := by decide +kernel
theorem dX9_call_106 : decode cX9_call 106 = .ok (.ifCond .eq 29, 3) := by decide +kernel
theorem dX9_call_109 : decode cX9_call 109 = .ok (.iload_n 1, 1) := by decide +kernel
theorem dX9_call_110 : decode cX9_call 110 = .ok (.iconst 2, 1) := by decide +kernel
theorem dX9_call_111 : decode cX9_call 111 = .ok (.if_icmp .ne 26, 3) := by decide +kernel
theorem dX9_call_114 : decode cX9_call 114 = .ok (.aload_n 0, 1) := by decide +kernel
theorem dX9_call_115 : decode cX9_call 115 = .ok (.aload_n 0, 1) := by decide +kernel
theorem dX9_call_116 : decode cX9_call 116 = .ok (.getfield 53, 3) := by decide +kernel
theorem dX9_call_119 : decode cX9_call 119 = .ok (.iconst 3, 1) := by decide +kernel
theorem dX9_call_120 : decode cX9_call 120 = .ok (.laload, 1) := by decide +kernel
theorem dX9_call_121 : decode cX9_call 121 = .ok (.aload_n 0, 1) := by decide +kernel
theorem dX9_call_122 : decode cX9_call 122 = .ok (.getfield 37, 3) := by decide +kernel
theorem dX9_call_125 : decode cX9_call 125 = .ok (.iload 4, 2) := by decide +kernel
theorem dX9_call_127 : decode cX9_call 127 = .ok (.iaload, 1) := by decide +kernel
theorem dX9_call_128 : decode cX9_call 128 = .ok (.iconst 0, 1) := by decide +kernel
theorem dX9_call_129 : decode cX9_call 129 = .ok (.invokevirtual 234, 3) := by decide +kernel
theorem dX9_call_132 : decode cX9_call 132 = .ok (.ifCond .ne 5, 3) := by decide +kernel
theorem dX9_call_135 : decode cX9_call 135 = .ok (.iconst 0, 1) := by decide +kernel
theorem dX9_call_136 : decode cX9_call 136 = .ok (.ireturn, 1) := by decide +kernel
theorem dX9_call_137 : decode cX9_call 137 = .ok (.iconst 0, 1) := by decide +kernel
theorem dX9_call_138 : decode cX9_call 138 = .ok (.istore 5, 2) := by decide +kernel
theorem dX9_call_140 : decode cX9_call 140 = .ok (.iload 5, 2) := by decide +kernel
theorem dX9_call_142 : decode cX9_call 142 = .ok (.aload_n 0, 1) := by decide +kernel
theorem dX9_call_143 : decode cX9_call 143 = .ok (.getfield 34, 3) := by decide +kernel
theorem dX9_call_146 : decode cX9_call 146 = .ok (.iload 4, 2) := by decide +kernel
theorem dX9_call_148 : decode cX9_call 148 = .ok (.iaload, 1) := by decide +kernel
theorem dX9_call_149 : decode cX9_call 149 = .ok (.if_icmp .ge 30, 3) := by decide +kernel
theorem dX9_call_152 : decode cX9_call 152 = .ok (.aload_n 0, 1) := by decide +kernel
theorem dX9_call_153 : decode cX9_call 153 = .ok (.getfield 63, 3) := by decide +kernel
theorem dX9_call_156 : decode cX9_call 156 = .ok (.iload 5, 2) := by decide +kernel
theorem dX9_call_158 : decode cX9_call 158 = .ok (.aload_n 0, 1) := by decide +kernel
theorem dX9_call_159 : decode cX9_call 159 = .ok (.aload_n 0, 1) := by decide +kernel
theorem dX9_call_160 : decode cX9_call 160 = .ok (.getfield 53, 3) := by decide +kernel
theorem dX9_call_163 : decode cX9_call 163 = .ok (.iconst 2, 1) := by decide +kernel
theorem dX9_call_164 : decode cX9_call 164 = .ok (.laload, 1) := by decide +kernel
theorem dX9_call_165 : decode cX9_call 165 = .ok (.iload 5, 2) := by decide +kernel
theorem dX9_call_167 : decode cX9_call 167 = .ok (.i2l, 1) := by decide +kernel
theorem dX9_call_168 : decode cX9_call 168 = .ok (.ladd, 1) := by decide +kernel
theorem dX9_call_169 : decode cX9_call 169 = .ok (.invokevirtual 227, 3) := by decide +kernel
theorem dX9_call_172 : decode cX9_call 172 = .ok (.iastore, 1) := by decide +kernel
theorem dX9_call_173 : decode cX9_call 173 = .ok (.iinc 5 1, 3) := by decide +kernel
theorem dX9_call_176 : decode cX9_call 176 = .ok (.goto (-36), 3) := by decide +kernel
theorem dX9_call_179 : decode cX9_call 179 = .ok (.iconst 0, 1) := by decide +kernel
theorem dX9_call_180 : decode cX9_call 180 = .ok (.istore 5, 2) := by decide +kernel
theorem dX9_call_182 : decode cX9_call 182 = .ok (.iload 5, 2) := by decide +kernel
theorem dX9_call_184 : decode cX9_call 184 = .ok (.aload_n 0, 1) := by decide +kernel
theorem dX9_call_185 : decode cX9_call 185 = .ok (.getfield 37, 3) := by decide +kernel
theorem dX9_call_188 : decode cX9_call 188 = .ok (.iload 4, 2) := by decide +kernel
theorem dX9_call_190 : decode cX9_call 190 = .ok (.iaload, 1) := by decide +kernel
theorem dX9_call_191 : decode cX9_call 191 = .ok (.if_icmp .ge 35, 3) := by decide +kernel
theorem dX9_call_194 : decode cX9_call 194 = .ok (.iload_n 1, 1) := by decide +kernel
theorem dX9_call_195 : decode cX9_call 195 = .ok (.iconst 2, 1) := by decide +kernel
theorem dX9_call_196 : decode cX9_call 196 = .ok (.if_icmp .ne 30, 3) := by decide +kernel
theorem dX9_call_199 : decode cX9_call 199 = .ok (.aload_n 0, 1) := by decide +kernel
theorem dX9_call_200 : decode cX9_call 200 = .ok (.getfield 60, 3) := by decide +kernel
theorem dX9_call_203 : decode cX9_call 203 = .ok (.iload 5, 2) := by decide +kernel
theorem dX9_call_205 : decode cX9_call 205 = .ok (.aload_n 0, 1) := by decide +kernel
theorem dX9_call_206 : decode cX9_call 206 = .ok (.aload_n 0, 1) := by decide +kernel
theorem dX9_call_207 : decode cX9_call 207 = .ok (.getfield 53, 3) := by decide +kernel
theorem dX9_call_210 : decode cX9_call 210 = .ok (.iconst 3, 1) := by decide +kernel
theorem dX9_call_211 : decode cX9_call 211 = .ok (.laload, 1) := by decide +kernel
theorem dX9_call_212 : decode cX9_call 212 = .ok (.iload 5, 2) := by decide +kernel
theorem dX9_call_214 : decode cX9_call 214 = .ok (.i2l, 1) := by decide +kernel
theorem dX9_call_215 : decode cX9_call 215 = .ok (.ladd, 1) := by decide +kernel
theorem dX9_call_216 : decode cX9_call 216 = .ok (.invokevirtual 227, 3) := by decide +kernel
theorem dX9_call_219 : decode cX9_call 219 = .ok (.iastore, 1) := by decide +kernel
theorem dX9_call_220 : decode cX9_call 220 = .ok (.iinc 5 1, 3) := by decide +kernel
theorem dX9_call_223 : decode cX9_call 223 = .ok (.goto (-41), 3) := by decide +kernel
theorem dX9_call_226 : decode cX9_call 226 = .ok (.aload_n 0, 1) := by decide +kernel
theorem dX9_call_227 : decode cX9_call 227 = .ok (.iload 4, 2) := by decide +kernel
theorem dX9_call_229 : decode cX9_call 229 = .ok (.invokevirtual 253, 3) := by decide +kernel
theorem dX9_call_232 : decode cX9_call 232 = .ok (.istore 5, 2) := by decide +kernel
theorem dX9_call_234 : decode cX9_call 234 = .ok (.iload_n 1, 1) := by decide +kernel
theorem dX9_call_235 : decode cX9_call 235 = .ok (.iconst 1, 1) := by decide +kernel
theorem dX9_call_236 : decode cX9_call 236 = .ok (.if_icmp .ne 33, 3) := by decide +kernel
theorem dX9_call_239 : decode cX9_call 239 = .ok (.iload 5, 2) := by decide +kernel
theorem dX9_call_241 : decode cX9_call 241 = .ok (.ifCond .ge 7, 3) := by decide +kernel
theorem dX9_call_244 : decode cX9_call 244 = .ok (.lconst 0, 1) := by decide +kernel
theorem dX9_call_245 : decode cX9_call 245 = .ok (.goto 20, 3) := by decide +kernel
theorem dX9_call_248 : decode cX9_call 248 = .ok (.ldc2_w 202, 3) := by decide +kernel
theorem dX9_call_251 : decode cX9_call 251 = .ok (.iload 4, 2) := by decide +kernel
theorem dX9_call_253 : decode cX9_call 253 = .ok (.i2l, 1) := by decide +kernel
theorem dX9_call_254 : decode cX9_call 254 = .ok (.bipush 24, 2) := by decide +kernel
theorem dX9_call_256 : decode cX9_call 256 = .ok (.lshl, 1) := by decide +kernel
theorem dX9_call_257 : decode cX9_call 257 = .ok (.ladd, 1) := by decide +kernel
theorem dX9_call_258 : decode cX9_call 258 = .ok (.iload 5, 2) := by decide +kernel
theorem dX9_call_260 : decode cX9_call 260 = .ok (.i2l, 1) := by decide +kernel
theorem dX9_call_261 : decode cX9_call 261 = .ok (.bipush 12, 2) := by decide +kernel
theorem dX9_call_263 : decode cX9_call 263 = .ok (.lshl, 1) := by decide +kernel
theorem dX9_call_264 : decode cX9_call 264 = .ok (.ladd, 1) := by decide +kernel
theorem dX9_call_265 : decode cX9_call 265 = .ok (.lstore_n 2, 1) := by decide +kernel
theorem dX9_call_266 : decode cX9_call 266 = .ok (.goto 81, 3) := by decide +kernel
theorem dX9_call_269 : decode cX9_call 269 = .ok (.iload_n 1, 1) := by decide +kernel
theorem dX9_call_270 : decode cX9_call 270 = .ok (.iconst 2, 1) := by decide +kernel
theorem dX9_call_271 : decode cX9_call 271 = .ok (.if_icmp .ne 21, 3) := by decide +kernel
theorem dX9_call_274 : decode cX9_call 274 = .ok (.aload_n 0, 1) := by decide +kernel
theorem dX9_call_275 : decode cX9_call 275 = .ok (.iload 4, 2) := by decide +kernel
theorem dX9_call_277 : decode cX9_call 277 = .ok (.iload 5, 2) := by decide +kernel
theorem dX9_call_279 : decode cX9_call 279 = .ok (.aload_n 0, 1) := by decide +kernel
theorem dX9_call_280 : decode cX9_call 280 = .ok (.getfield 53, 3) := by decide +kernel
theorem dX9_call_283 : decode cX9_call 283 = .ok (.iconst 4, 1) := by decide +kernel
theorem dX9_call_284 : decode cX9_call 284 = .ok (.laload, 1) := by decide +kernel
theorem dX9_call_285 : decode cX9_call 285 = .ok (.invokevirtual 256, 3) := by decide +kernel
theorem dX9_call_288 : decode cX9_call 288 = .ok (.lstore_n 2, 1) := by decide +kernel
theorem dX9_call_289 : decode cX9_call 289 = .ok (.goto 58, 3) := by decide +kernel
theorem dX9_call_292 : decode cX9_call 292 = .ok (.aload_n 0, 1) := by decide +kernel
theorem dX9_call_293 : decode cX9_call 293 = .ok (.getfield 31, 3) := by decide +kernel
theorem dX9_call_296 : decode cX9_call 296 = .ok (.iload 4, 2) := by decide +kernel
theorem dX9_call_298 : decode cX9_call 298 = .ok (.iaload, 1) := by decide +kernel
theorem dX9_call_299 : decode cX9_call 299 = .ok (.iconst 1, 1) := by decide +kernel
theorem dX9_call_300 : decode cX9_call 300 = .ok (.if_icmp .ne 12, 3) := by decide +kernel
theorem dX9_call_303 : decode cX9_call 303 = .ok (.iload 5, 2) := by decide +kernel
theorem dX9_call_305 : decode cX9_call 305 = .ok (.ifCond .lt 7, 3) := by decide +kernel
theorem dX9_call_308 : decode cX9_call 308 = .ok (.iconst 1, 1) := by decide +kernel
theorem dX9_call_309 : decode cX9_call 309 = .ok (.goto 4, 3) := by decide +kernel
theorem dX9_call_312 : decode cX9_call 312 = .ok (.iconst 0, 1) := by decide +kernel
theorem dX9_call_313 : decode cX9_call 313 = .ok (.istore 6, 2) := by decide +kernel
theorem dX9_call_315 : decode cX9_call 315 = .ok (.iload 6, 2) := by decide +kernel
theorem dX9_call_317 : decode cX9_call 317 = .ok (.ifCond .eq 17, 3) := by decide +kernel
theorem dX9_call_320 : decode cX9_call 320 = .ok (.aload_n 0, 1) := by decide +kernel
theorem dX9_call_321 : decode cX9_call 321 = .ok (.getfield 46, 3) := by decide +kernel
theorem dX9_call_324 : decode cX9_call 324 = .ok (.bipush 32, 2) := by decide +kernel
theorem dX9_call_326 : decode cX9_call 326 = .ok (.iload 4, 2) := by decide +kernel
theorem dX9_call_328 : decode cX9_call 328 = .ok (.imul, 1) := by decide +kernel
theorem dX9_call_329 : decode cX9_call 329 = .ok (.iload 5, 2) := by decide +kernel
theorem dX9_call_331 : decode cX9_call 331 = .ok (.iadd, 1) := by decide +kernel
theorem dX9_call_332 : decode cX9_call 332 = .ok (.iconst 0, 1) := by decide +kernel
theorem dX9_call_333 : decode cX9_call 333 = .ok (.bastore, 1) := by decide +kernel
theorem dX9_call_334 : decode cX9_call 334 = .ok (.iload 6, 2) := by decide +kernel
theorem dX9_call_336 : decode cX9_call 336 = .ok (.ifCond .eq 7, 3) := by decide +kernel
theorem dX9_call_339 : decode cX9_call 339 = .ok (.lconst 0, 1) := by decide +kernel
theorem dX9_call_340 : decode cX9_call 340 = .ok (.goto 6, 3) := by decide +kernel
theorem dX9_call_343 : decode cX9_call 343 = .ok (.ldc2_w 187, 3) := by decide +kernel
theorem dX9_call_346 : decode cX9_call 346 = .ok (.lstore_n 2, 1) := by decide +kernel
theorem dX9_call_347 : decode cX9_call 347 = .ok (.aload_n 0, 1) := by decide +kernel
theorem dX9_call_348 : decode cX9_call 348 = .ok (.getfield 53, 3) := by decide +kernel
theorem dX9_call_351 : decode cX9_call 351 = .ok (.iconst 0, 1) := by decide +kernel
theorem dX9_call_352 : decode cX9_call 352 = .ok (.lload_n 2, 1) := by decide +kernel
theorem dX9_call_353 : decode cX9_call 353 = .ok (.lastore, 1) := by decide +kernel
theorem dX9_call_354 : decode cX9_call 354 = .ok (.iconst 1, 1) := by decide +kernel
theorem dX9_call_355 : decode cX9_call 355 = .ok (.istore 4, 2) := by decide +kernel
theorem dX9_call_357 : decode cX9_call 357 = .ok (.iload 4, 2) := by decide +kernel
theorem dX9_call_359 : decode cX9_call 359 = .ok (.bipush 6, 2) := by decide +kernel
theorem dX9_call_361 : decode cX9_call 361 = .ok (.if_icmp .ge 17, 3) := by decide +kernel
theorem dX9_call_364 : decode cX9_call 364 = .ok (.aload_n 0, 1) := by decide +kernel
theorem dX9_call_365 : decode cX9_call 365 = .ok (.getfield 53, 3) := by decide +kernel
theorem dX9_call_368 : decode cX9_call 368 = .ok (.iload 4, 2) := by decide +kernel
theorem dX9_call_370 : decode cX9_call 370 = .ok (.lconst 0, 1) := by decide +kernel
theorem dX9_call_371 : decode cX9_call 371 = .ok (.lastore, 1) := by decide +kernel
theorem dX9_call_372 : decode cX9_call 372 = .ok (.iinc 4 1, 3) := by decide +kernel
theorem dX9_call_375 : decode cX9_call 375 = .ok (.goto (-18), 3) := by decide +kernel
theorem dX9_call_378 : decode cX9_call 378 = .ok (.iconst 1, 1) := by decide +kernel
theorem dX9_call_379 : decode cX9_call 379 = .ok (.ireturn, 1) := by decide +kernel
theorem dX9_start_0 : decode cX9_start 0 = .ok (.aload_n 0, 1) := by decide +kernel
theorem dX9_start_1 : decode cX9_start 1 = .ok (.getfield 147, 3) := by decide +kernel
theorem dX9_start_4 : decode cX9_start 4 = .ok (.ifCond .ne 6, 3) := by decide +kernel
theorem dX9_start_7 : decode cX9_start 7 = .ok (.bipush (-3), 2) := by decide +kernel
theorem dX9_start_9 : decode cX9_start 9 = .ok (.ireturn, 1) := by decide +kernel
theorem dX9_start_10 : decode cX9_start 10 = .ok (.iconst 0, 1) := by decide +kernel
theorem dX9_start_11 : decode cX9_start 11 = .ok (.istore_n 1, 1) := by decide +kernel
theorem dX9_start_12 : decode cX9_start 12 = .ok (.iload_n 1, 1) := by decide +kernel
theorem dX9_start_13 : decode cX9_start 13 = .ok (.bipush 11, 2) := by decide +kernel
theorem dX9_start_15 : decode cX9_start 15 = .ok (.if_icmp .ge 39, 3) := by decide +kernel
theorem dX9_start_18 : decode cX9_start 18 = .ok (.aload_n 0, 1) := by decide +kernel
theorem dX9_start_19 : decode cX9_start 19 = .ok (.getfield 53, 3) := by decide +kernel
theorem dX9_start_22 : decode cX9_start 22 = .ok (.iload_n 1, 1) := by decide +kernel
theorem dX9_start_23 : decode cX9_start 23 = .ok (.iload_n 1, 1) := by decide +kernel
theorem dX9_start_24 : decode cX9_start 24 = .ok (.iconst 1, 1) := by decide +kernel
theorem dX9_start_25 : decode cX9_start 25 = .ok (.if_icmp .ne 9, 3) := by decide +kernel
theorem dX9_start_28 : decode cX9_start 28 = .ok (.ldc2_w 207, 3) := by decide +kernel
theorem dX9_start_31 : decode cX9_start 31 = .ok (.goto 16, 3) := by decide +kernel
theorem dX9_start_34 : decode cX9_start 34 = .ok (.iload_n 1, 1) := by decide +kernel
theorem dX9_start_35 : decode cX9_start 35 = .ok (.bipush 10, 2) := by decide +kernel
theorem dX9_start_37 : decode cX9_start 37 = .ok (.if_icmp .ne 9, 3) := by decide +kernel
theorem dX9_start_40 : decode cX9_start 40 = .ok (.ldc2_w 216, 3) := by decide +kernel
theorem dX9_start_43 : decode cX9_start 43 = .ok (.goto 4, 3) := by decide +kernel
theorem dX9_start_46 : decode cX9_start 46 = .ok (.lconst 0, 1) := by decide +kernel
theorem dX9_start_47 : decode cX9_start 47 = .ok (.lastore, 1) := by decide +kernel
theorem dX9_start_48 : decode cX9_start 48 = .ok (.iinc 1 1, 3) := by decide +kernel
theorem dX9_start_51 : decode cX9_start 51 = .ok (.goto (-39), 3) := by decide +kernel
theorem dX9_start_54 : decode cX9_start 54 = .ok (.iconst 0, 1) := by decide +kernel
theorem dX9_start_55 : decode cX9_start 55 = .ok (.istore_n 1, 1) := by decide +kernel
theorem dX9_start_56 : decode cX9_start 56 = .ok (.iload_n 1, 1) := by decide +kernel
theorem dX9_start_57 : decode cX9_start 57 = .ok (.sipush 512, 3) := by decide +kernel
theorem dX9_start_60 : decode cX9_start 60 = .ok (.if_icmp .ge 16, 3) := by decide +kernel
theorem dX9_start_63 : decode cX9_start 63 = .ok (.aload_n 0, 1) := by decide +kernel
theorem dX9_start_64 : decode cX9_start 64 = .ok (.getfield 28, 3) := by decide +kernel
theorem dX9_start_67 : decode cX9_start 67 = .ok (.iload_n 1, 1) := by decide +kernel
theorem dX9_start_68 : decode cX9_start 68 = .ok (.iconst 0, 1) := by decide +kernel
theorem dX9_start_69 : decode cX9_start 69 = .ok (.iastore, 1) := by decide +kernel
theorem dX9_start_70 : decode cX9_start 70 = .ok (.iinc 1 1, 3) := by decide +kernel
theorem dX9_start_73 : decode cX9_start 73 = .ok (.goto (-17), 3) := by decide +kernel
theorem dX9_start_76 : decode cX9_start 76 = .ok (.aload_n 0, 1) := by decide +kernel
theorem dX9_start_77 : decode cX9_start 77 = .ok (.iconst 0, 1) := by decide +kernel
theorem dX9_start_78 : decode cX9_start 78 = .ok (.putfield 260, 3) := by decide +kernel
theorem dX9_start_81 : decode cX9_start 81 = .ok (.aload_n 0, 1) := by decide +kernel
theorem dX9_start_82 : decode cX9_start 82 = .ok (.iconst 0, 1) := by decide +kernel
theorem dX9_start_83 : decode cX9_start 83 = .ok (.putfield 263, 3) := by decide +kernel
theorem dX9_start_86 : decode cX9_start 86 = .ok (.aload_n 0, 1) := by decide +kernel
theorem dX9_start_87 : decode cX9_start 87 = .ok (.iconst 0, 1) := by decide +kernel
theorem dX9_start_88 : decode cX9_start 88 = .ok (.putfield 248, 3) := by decide +kernel
theorem dX9_start_91 : decode cX9_start 91 = .ok (.aload_n 0, 1) := by decide +kernel
theorem dX9_start_92 : decode cX9_start 92 = .ok (.iconst 1, 1) := by decide +kernel
theorem dX9_start_93 : decode cX9_start 93 = .ok (.putfield 140, 3) := by decide +kernel
theorem dX9_start_96 : decode cX9_start 96 = .ok (.iconst 1, 1) := by decide +kernel
theorem dX9_start_97 : decode cX9_start 97 = .ok (.ireturn, 1) := by decide +kernel
theorem dX9_load_0 : decode cX9_load 0 = .ok (.aload_n 0, 1) := by decide +kernel
theorem dX9_load_1 : decode cX9_load 1 = .ok (.getfield 53, 3) := by decide +kernel
theorem dX9_load_4 : decode cX9_load 4 = .ok (.aload_n 0, 1) := by decide +kernel
theorem dX9_load_5 : decode cX9_load 5 = .ok (.getfield 16, 3) := by decide +kernel
theorem dX9_load_8 : decode cX9_load 8 = .ok (.iload_n 1, 1) := by decide +kernel
theorem dX9_load_9 : decode cX9_load 9 = .ok (.iaload, 1) := by decide +kernel
theorem dX9_load_10 : decode cX9_load 10 = .ok (.laload, 1) := by decide +kernel
theorem dX9_load_11 : decode cX9_load 11 = .ok (.aload_n 0, 1) := by decide +kernel
theorem dX9_load_12 : decode cX9_load 12 = .ok (.getfield 19, 3) := by decide +kernel
theorem dX9_load_15 : decode cX9_load 15 = .ok (.iload_n 1, 1) := by decide +kernel
theorem dX9_load_16 : decode cX9_load 16 = .ok (.iaload, 1) := by decide +kernel
theorem dX9_load_17 : decode cX9_load 17 = .ok (.i2l, 1) := by decide +kernel
theorem dX9_load_18 : decode cX9_load 18 = .ok (.ladd, 1) := by decide +kernel
theorem dX9_load_19 : decode cX9_load 19 = .ok (.lstore 4, 2) := by decide +kernel
theorem dX9_load_21 : decode cX9_load 21 = .ok (.aload_n 0, 1) := by decide +kernel
theorem dX9_load_22 : decode cX9_load 22 = .ok (.lload 4, 2) := by decide +kernel
theorem dX9_load_24 : decode cX9_load 24 = .ok (.iload_n 2, 1) := by decide +kernel
theorem dX9_load_25 : decode cX9_load 25 = .ok (.iconst 0, 1) := by decide +kernel
theorem dX9_load_26 : decode cX9_load 26 = .ok (.invokevirtual 234, 3) := by decide +kernel
theorem dX9_load_29 : decode cX9_load 29 = .ok (.ifCond .ne 5, 3) := by decide +kernel
theorem dX9_load_32 : decode cX9_load 32 = .ok (.iconst 0, 1) := by decide +kernel
theorem dX9_load_33 : decode cX9_load 33 = .ok (.ireturn, 1) := by decide +kernel
theorem dX9_load_34 : decode cX9_load 34 = .ok (.aload_n 0, 1) := by decide +kernel
theorem dX9_load_35 : decode cX9_load 35 = .ok (.lload 4, 2) := by decide +kernel
theorem dX9_load_37 : decode cX9_load 37 = .ok (.iload_n 2, 1) := by decide +kernel
theorem dX9_load_38 : decode cX9_load 38 = .ok (.invokevirtual 266, 3) := by decide +kernel
theorem dX9_load_41 : decode cX9_load 41 = .ok (.lstore 6, 2) := by decide +kernel
theorem dX9_load_43 : decode cX9_load 43 = .ok (.aload_n 0, 1) := by decide +kernel
theorem dX9_load_44 : decode cX9_load 44 = .ok (.getfield 53, 3) := by decide +kernel
theorem dX9_load_47 : decode cX9_load 47 = .ok (.aload_n 0, 1) := by decide +kernel
theorem dX9_load_48 : decode cX9_load 48 = .ok (.getfield 13, 3) := by decide +kernel
theorem dX9_load_51 : decode cX9_load 51 = .ok (.iload_n 1, 1) := by decide +kernel
theorem dX9_load_52 : decode cX9_load 52 = .ok (.iaload, 1) := by decide +kernel
theorem dX9_load_53 : decode cX9_load 53 = .ok (.iload_n 3, 1) := by decide +kernel
theorem dX9_load_54 : decode cX9_load 54 = .ok (.ifCond .eq 15, 3) := by decide +kernel
theorem dX9_load_57 : decode cX9_load 57 = .ok (.lload 6, 2) := by decide +kernel
theorem dX9_load_59 : decode cX9_load 59 = .ok (.bipush 8, 2) := by decide +kernel
theorem dX9_load_61 : decode cX9_load 61 = .ok (.iload_n 2, 1) := by decide +kernel
theorem dX9_load_62 : decode cX9_load 62 = .ok (.imul, 1) := by decide +kernel
theorem dX9_load_63 : decode cX9_load 63 = .ok (.invokestatic 183, 3) := by decide +kernel
theorem dX9_load_66 : decode cX9_load 66 = .ok (.goto 5, 3) := by decide +kernel
theorem dX9_load_69 : decode cX9_load 69 = .ok (.lload 6, 2) := by decide +kernel
theorem dX9_load_71 : decode cX9_load 71 = .ok (.lastore, 1) := by decide +kernel
theorem dX9_load_72 : decode cX9_load 72 = .ok (.iconst 1, 1) := by decide +kernel
theorem dX9_load_73 : decode cX9_load 73 = .ok (.ireturn, 1) := by decide +kernel
theorem dX9_put_0 : decode cX9_put 0 = .ok (.aload_n 0, 1) := by decide +kernel
theorem dX9_put_1 : decode cX9_put 1 = .ok (.getfield 53, 3) := by decide +kernel
theorem dX9_put_4 : decode cX9_put 4 = .ok (.aload_n 0, 1) := by decide +kernel
theorem dX9_put_5 : decode cX9_put 5 = .ok (.getfield 13, 3) := by decide +kernel
theorem dX9_put_8 : decode cX9_put 8 = .ok (.iload_n 1, 1) := by decide +kernel
theorem dX9_put_9 : decode cX9_put 9 = .ok (.iaload, 1) := by decide +kernel
theorem dX9_put_10 : decode cX9_put 10 = .ok (.laload, 1) := by decide +kernel
theorem dX9_put_11 : decode cX9_put 11 = .ok (.aload_n 0, 1) := by decide +kernel
theorem dX9_put_12 : decode cX9_put 12 = .ok (.getfield 19, 3) := by decide +kernel
theorem dX9_put_15 : decode cX9_put 15 = .ok (.iload_n 1, 1) := by decide +kernel
theorem dX9_put_16 : decode cX9_put 16 = .ok (.iaload, 1) := by decide +kernel
theorem dX9_put_17 : decode cX9_put 17 = .ok (.i2l, 1) := by decide +kernel
theorem dX9_put_18 : decode cX9_put 18 = .ok (.ladd, 1) := by decide +kernel
theorem dX9_put_19 : decode cX9_put 19 = .ok (.lstore 5, 2) := by decide +kernel
theorem dX9_put_21 : decode cX9_put 21 = .ok (.aload_n 0, 1) := by decide +kernel
theorem dX9_put_22 : decode cX9_put 22 = .ok (.lload 5, 2) := by decide +kernel
theorem dX9_put_24 : decode cX9_put 24 = .ok (.iload_n 2, 1) := by decide +kernel
theorem dX9_put_25 : decode cX9_put 25 = .ok (.iconst 1, 1) := by decide +kernel
theorem dX9_put_26 : decode cX9_put 26 = .ok (.invokevirtual 234, 3) := by decide +kernel
theorem dX9_put_29 : decode cX9_put 29 = .ok (.ifCond .ne 5, 3) := by decide +kernel
theorem dX9_put_32 : decode cX9_put 32 = .ok (.iconst 0, 1) := by decide +kernel
theorem dX9_put_33 : decode cX9_put 33 = .ok (.ireturn, 1) := by decide +kernel
theorem dX9_put_34 : decode cX9_put 34 = .ok (.aload_n 0, 1) := by decide +kernel
theorem dX9_put_35 : decode cX9_put 35 = .ok (.lload 5, 2) := by decide +kernel
theorem dX9_put_37 : decode cX9_put 37 = .ok (.iload_n 2, 1) := by decide +kernel
theorem dX9_put_38 : decode cX9_put 38 = .ok (.lload_n 3, 1) := by decide +kernel
theorem dX9_put_39 : decode cX9_put 39 = .ok (.invokevirtual 269, 3) := by decide +kernel
theorem dX9_put_42 : decode cX9_put 42 = .ok (.iconst 1, 1) := by decide +kernel
theorem dX9_put_43 : decode cX9_put 43 = .ok (.ireturn, 1) := by decide +kernel
theorem dX9_both_0 : decode cX9_both 0 = .ok (.aload_n 0, 1) := by decide +kernel
theorem dX9_both_1 : decode cX9_both 1 = .ok (.getfield 53, 3) := by decide +kernel
theorem dX9_both_4 : decode cX9_both 4 = .ok (.aload_n 0, 1) := by decide +kernel
theorem dX9_both_5 : decode cX9_both 5 = .ok (.getfield 13, 3) := by decide +kernel
theorem dX9_both_8 : decode cX9_both 8 = .ok (.iload_n 1, 1) := by decide +kernel
theorem dX9_both_9 : decode cX9_both 9 = .ok (.iaload, 1) := by decide +kernel
theorem dX9_both_10 : decode cX9_both 10 = .ok (.laload, 1) := by decide +kernel
theorem dX9_both_11 : decode cX9_both 11 = .ok (.aload_n 0, 1) := by decide +kernel
theorem dX9_both_12 : decode cX9_both 12 = .ok (.getfield 19, 3) := by decide +kernel
theorem dX9_both_15 : decode cX9_both 15 = .ok (.iload_n 1, 1) := by decide +kernel
theorem dX9_both_16 : decode cX9_both 16 = .ok (.iaload, 1) := by decide +kernel
theorem dX9_both_17 : decode cX9_both 17 = .ok (.i2l, 1) := by decide +kernel
theorem dX9_both_18 : decode cX9_both 18 = .ok (.ladd, 1) := by decide +kernel
theorem dX9_both_19 : decode cX9_both 19 = .ok (.lstore_n 3, 1) := by decide +kernel
theorem dX9_both_20 : decode cX9_both 20 = .ok (.aload_n 0, 1) := by decide +kernel
theorem dX9_both_21 : decode cX9_both 21 = .ok (.lload_n 3, 1) := by decide +kernel
theorem dX9_both_22 : decode cX9_both 22 = .ok (.iload_n 2, 1) := by decide +kernel
theorem dX9_both_23 : decode cX9_both 23 = .ok (.iconst 1, 1) := by decide +kernel
theorem dX9_both_24 : decode cX9_both 24 = .ok (.invokevirtual 234, 3) := by decide +kernel
theorem dX9_both_27 : decode cX9_both 27 = .ok (.ifCond .ne 5, 3) := by decide +kernel
theorem dX9_both_30 : decode cX9_both 30 = .ok (.iconst 0, 1) := by decide +kernel
theorem dX9_both_31 : decode cX9_both 31 = .ok (.ireturn, 1) := by decide +kernel
theorem dX9_both_32 : decode cX9_both 32 = .ok (.aload_n 0, 1) := by decide +kernel
theorem dX9_both_33 : decode cX9_both 33 = .ok (.lload_n 3, 1) := by decide +kernel
theorem dX9_both_34 : decode cX9_both 34 = .ok (.iload_n 2, 1) := by decide +kernel
theorem dX9_both_35 : decode cX9_both 35 = .ok (.invokevirtual 266, 3) := by decide +kernel
theorem dX9_both_38 : decode cX9_both 38 = .ok (.lstore 5, 2) := by decide +kernel
theorem dX9_both_40 : decode cX9_both 40 = .ok (.aload_n 0, 1) := by decide +kernel
theorem dX9_both_41 : decode cX9_both 41 = .ok (.getfield 53, 3) := by decide +kernel
theorem dX9_both_44 : decode cX9_both 44 = .ok (.aload_n 0, 1) := by decide +kernel
theorem dX9_both_45 : decode cX9_both 45 = .ok (.getfield 16, 3) := by decide +kernel
theorem dX9_both_48 : decode cX9_both 48 = .ok (.iload_n 1, 1) := by decide +kernel
theorem dX9_both_49 : decode cX9_both 49 = .ok (.iaload, 1) := by decide +kernel
theorem dX9_both_50 : decode cX9_both 50 = .ok (.laload, 1) := by decide +kernel
theorem dX9_both_51 : decode cX9_both 51 = .ok (.lstore 7, 2) := by decide +kernel
theorem dX9_both_53 : decode cX9_both 53 = .ok (.aload_n 0, 1) := by decide +kernel
theorem dX9_both_54 : decode cX9_both 54 = .ok (.getfield 22, 3) := by decide +kernel
theorem dX9_both_57 : decode cX9_both 57 = .ok (.iload_n 1, 1) := by decide +kernel
theorem dX9_both_58 : decode cX9_both 58 = .ok (.iaload, 1) := by decide +kernel
theorem dX9_both_59 : decode cX9_both 59 = .ok (.istore 9, 2) := by decide +kernel
theorem dX9_both_61 : decode cX9_both 61 = .ok (.iload 9, 2) := by decide +kernel
theorem dX9_both_63 : decode cX9_both 63 = .ok (.sipush 241, 3) := by decide +kernel
theorem dX9_both_66 : decode cX9_both 66 = .ok (.if_icmp .ne 56, 3) := by decide +kernel
theorem dX9_both_69 : decode cX9_both 69 = .ok (.iload_n 2, 1) := by decide +kernel
theorem dX9_both_70 : decode cX9_both 70 = .ok (.bipush 8, 2) := by decide +kernel
theorem dX9_both_72 : decode cX9_both 72 = .ok (.if_icmp .ne 12, 3) := by decide +kernel
theorem dX9_both_75 : decode cX9_both 75 = .ok (.aload_n 0, 1) := by decide +kernel
theorem dX9_both_76 : decode cX9_both 76 = .ok (.getfield 53, 3) := by decide +kernel
theorem dX9_both_79 : decode cX9_both 79 = .ok (.iconst 0, 1) := by decide +kernel
theorem dX9_both_80 : decode cX9_both 80 = .ok (.laload, 1) := by decide +kernel
theorem dX9_both_81 : decode cX9_both 81 = .ok (.goto 13, 3) := by decide +kernel
theorem dX9_both_84 : decode cX9_both 84 = .ok (.aload_n 0, 1) := by decide +kernel
theorem dX9_both_85 : decode cX9_both 85 = .ok (.getfield 53, 3) := by decide +kernel
theorem dX9_both_88 : decode cX9_both 88 = .ok (.iconst 0, 1) := by decide +kernel
theorem dX9_both_89 : decode cX9_both 89 = .ok (.laload, 1) := by decide +kernel
theorem dX9_both_90 : decode cX9_both 90 = .ok (.ldc2_w 192, 3) := by decide +kernel
theorem dX9_both_93 : decode cX9_both 93 = .ok (.land, 1) := by decide +kernel
theorem dX9_both_94 : decode cX9_both 94 = .ok (.lstore 10, 2) := by decide +kernel
theorem dX9_both_96 : decode cX9_both 96 = .ok (.lload 10, 2) := by decide +kernel
theorem dX9_both_98 : decode cX9_both 98 = .ok (.lload 5, 2) := by decide +kernel
theorem dX9_both_100 : decode cX9_both 100 = .ok (.lcmp, 1) := by decide +kernel
theorem dX9_both_101 : decode cX9_both 101 = .ok (.ifCond .ne 11, 3) := by decide +kernel
theorem dX9_both_104 : decode cX9_both 104 = .ok (.aload_n 0, 1) := by decide +kernel
theorem dX9_both_105 : decode cX9_both 105 = .ok (.lload_n 3, 1) := by decide +kernel
theorem dX9_both_106 : decode cX9_both 106 = .ok (.iload_n 2, 1) := by decide +kernel
theorem dX9_both_107 : decode cX9_both 107 = .ok (.lload 7, 2) := by decide +kernel
theorem dX9_both_109 : decode cX9_both 109 = .ok (.invokevirtual 269, 3) := by decide +kernel
theorem dX9_both_112 : decode cX9_both 112 = .ok (.aload_n 0, 1) := by decide +kernel
theorem dX9_both_113 : decode cX9_both 113 = .ok (.getfield 53, 3) := by decide +kernel
theorem dX9_both_116 : decode cX9_both 116 = .ok (.iconst 0, 1) := by decide +kernel
theorem dX9_both_117 : decode cX9_both 117 = .ok (.lload 5, 2) := by decide +kernel
theorem dX9_both_119 : decode cX9_both 119 = .ok (.lastore, 1) := by decide +kernel
theorem dX9_both_120 : decode cX9_both 120 = .ok (.iconst 1, 1) := by decide +kernel
theorem dX9_both_121 : decode cX9_both 121 = .ok (.ireturn, 1) := by decide +kernel
theorem dX9_both_122 : decode cX9_both 122 = .ok (.iload 9, 2) := by decide +kernel
theorem dX9_both_124 : decode cX9_both 124 = .ok (.bipush (-2), 2) := by decide +kernel
theorem dX9_both_126 : decode cX9_both 126 = .ok (.iand, 1) := by decide +kernel
theorem dX9_both_127 : decode cX9_both 127 = .ok (.istore 10, 2) := by decide +kernel
theorem dX9_both_129 : decode cX9_both 129 = .ok (.aload_n 0, 1) := by decide +kernel
theorem dX9_both_130 : decode cX9_both 130 = .ok (.lload_n 3, 1) := by decide +kernel
theorem dX9_both_131 : decode cX9_both 131 = .ok (.iload_n 2, 1) := by decide +kernel
theorem dX9_both_132 : decode cX9_both 132 = .ok (.iload 10, 2) := by decide +kernel
theorem dX9_both_134 : decode cX9_both 134 = .ok (.ifCond .ne 11, 3) := by decide +kernel
theorem dX9_both_137 : decode cX9_both 137 = .ok (.lload 5, 2) := by decide +kernel
theorem dX9_both_139 : decode cX9_both 139 = .ok (.lload 7, 2) := by decide +kernel
theorem dX9_both_141 : decode cX9_both 141 = .ok (.ladd, 1) := by decide +kernel
theorem dX9_both_142 : decode cX9_both 142 = .ok (.goto 51, 3) := by decide +kernel
theorem dX9_both_145 : decode cX9_both 145 = .ok (.iload 10, 2) := by decide +kernel
theorem dX9_both_147 : decode cX9_both 147 = .ok (.bipush 64, 2) := by decide +kernel
theorem dX9_both_149 : decode cX9_both 149 = .ok (.if_icmp .ne 11, 3) := by decide +kernel
theorem dX9_both_152 : decode cX9_both 152 = .ok (.lload 5, 2) := by decide +kernel
theorem dX9_both_154 : decode cX9_both 154 = .ok (.lload 7, 2) := by decide +kernel
theorem dX9_both_156 : decode cX9_both 156 = .ok (.lor, 1) := by decide +kernel
theorem dX9_both_157 : decode cX9_both 157 = .ok (.goto 36, 3) := by decide +kernel
theorem dX9_both_160 : decode cX9_both 160 = .ok (.iload 10, 2) := by decide +kernel
theorem dX9_both_162 : decode cX9_both 162 = .ok (.bipush 80, 2) := by decide +kernel
theorem dX9_both_164 : decode cX9_both 164 = .ok (.if_icmp .ne 11, 3) := by decide +kernel
theorem dX9_both_167 : decode cX9_both 167 = .ok (.lload 5, 2) := by decide +kernel
theorem dX9_both_169 : decode cX9_both 169 = .ok (.lload 7, 2) := by decide +kernel
theorem dX9_both_171 : decode cX9_both 171 = .ok (.land, 1) := by decide +kernel
theorem dX9_both_172 : decode cX9_both 172 = .ok (.goto 21, 3) := by decide +kernel
theorem dX9_both_175 : decode cX9_both 175 = .ok (.iload 10, 2) := by decide +kernel
theorem dX9_both_177 : decode cX9_both 177 = .ok (.sipush 160, 3) := by decide +kernel
theorem dX9_both_180 : decode cX9_both 180 = .ok (.if_icmp .ne 11, 3) := by decide +kernel
theorem dX9_both_183 : decode cX9_both 183 = .ok (.lload 5, 2) := by decide +kernel
theorem dX9_both_185 : decode cX9_both 185 = .ok (.lload 7, 2) := by decide +kernel
theorem dX9_both_187 : decode cX9_both 187 = .ok (.lxor, 1) := by decide +kernel
theorem dX9_both_188 : decode cX9_both 188 = .ok (.goto 5, 3) := by decide +kernel
theorem dX9_both_191 : decode cX9_both 191 = .ok (.lload 7, 2) := by decide +kernel
theorem dX9_both_193 : decode cX9_both 193 = .ok (.invokevirtual 269, 3) := by decide +kernel
theorem dX9_both_196 : decode cX9_both 196 = .ok (.iload 9, 2) := by decide +kernel
theorem dX9_both_198 : decode cX9_both 198 = .ok (.iconst 1, 1) := by decide +kernel
theorem dX9_both_199 : decode cX9_both 199 = .ok (.iand, 1) := by decide +kernel
theorem dX9_both_200 : decode cX9_both 200 = .ok (.iconst 1, 1) := by decide +kernel
theorem dX9_both_201 : decode cX9_both 201 = .ok (.if_icmp .ne 16, 3) := by decide +kernel
theorem dX9_both_204 : decode cX9_both 204 = .ok (.aload_n 0, 1) := by decide +kernel
theorem dX9_both_205 : decode cX9_both 205 = .ok (.getfield 53, 3) := by decide +kernel
theorem dX9_both_208 : decode cX9_both 208 = .ok (.aload_n 0, 1) := by decide +kernel
theorem dX9_both_209 : decode cX9_both 209 = .ok (.getfield 16, 3) := by decide +kernel
theorem dX9_both_212 : decode cX9_both 212 = .ok (.iload_n 1, 1) := by decide +kernel
theorem dX9_both_213 : decode cX9_both 213 = .ok (.iaload, 1) := by decide +kernel
theorem dX9_both_214 : decode cX9_both 214 = .ok (.lload 5, 2) := by decide +kernel
theorem dX9_both_216 : decode cX9_both 216 = .ok (.lastore, 1) := by decide +kernel
theorem dX9_both_217 : decode cX9_both 217 = .ok (.iconst 1, 1) := by decide +kernel
theorem dX9_both_218 : decode cX9_both 218 = .ok (.ireturn, 1) := by decide +kernel
theorem dX9_wide_0 : decode cX9_wide 0 = .ok (.iload_n 1, 1) := by decide +kernel
theorem dX9_wide_1 : decode cX9_wide 1 = .ok (.iconst 1, 1) := by decide +kernel
theorem dX9_wide_2 : decode cX9_wide 2 = .ok (.iadd, 1) := by decide +kernel
theorem dX9_wide_3 : decode cX9_wide 3 = .ok (.aload_n 0, 1) := by decide +kernel
theorem dX9_wide_4 : decode cX9_wide 4 = .ok (.getfield 147, 3) := by decide +kernel
theorem dX9_wide_7 : decode cX9_wide 7 = .ok (.if_icmp .ne 5, 3) := by decide +kernel
theorem dX9_wide_10 : decode cX9_wide 10 = .ok (.iconst 5, 1) := by decide +kernel
theorem dX9_wide_11 : decode cX9_wide 11 = .ok (.ireturn, 1) := by decide +kernel
theorem dX9_wide_12 : decode cX9_wide 12 = .ok (.aload_n 0, 1) := by decide +kernel
theorem dX9_wide_13 : decode cX9_wide 13 = .ok (.iload_n 1, 1) := by decide +kernel
theorem dX9_wide_14 : decode cX9_wide 14 = .ok (.iconst 1, 1) := by decide +kernel
theorem dX9_wide_15 : decode cX9_wide 15 = .ok (.iadd, 1) := by decide +kernel
theorem dX9_wide_16 : decode cX9_wide 16 = .ok (.invokevirtual 309, 3) := by decide +kernel
theorem dX9_wide_19 : decode cX9_wide 19 = .ok (.ifCond .ne 5, 3) := by decide +kernel
theorem dX9_wide_22 : decode cX9_wide 22 = .ok (.iconst 3, 1) := by decide +kernel
theorem dX9_wide_23 : decode cX9_wide 23 = .ok (.ireturn, 1) := by decide +kernel
theorem dX9_wide_24 : decode cX9_wide 24 = .ok (.aload_n 0, 1) := by decide +kernel
theorem dX9_wide_25 : decode cX9_wide 25 = .ok (.getfield 16, 3) := by decide +kernel
theorem dX9_wide_28 : decode cX9_wide 28 = .ok (.iload_n 1, 1) := by decide +kernel
theorem dX9_wide_29 : decode cX9_wide 29 = .ok (.iaload, 1) := by decide +kernel
theorem dX9_wide_30 : decode cX9_wide 30 = .ok (.iconst 1, 1) := by decide +kernel
theorem dX9_wide_31 : decode cX9_wide 31 = .ok (.if_icmp .ne 26, 3) := by decide +kernel
theorem dX9_wide_34 : decode cX9_wide 34 = .ok (.aload_n 0, 1) := by decide +kernel
theorem dX9_wide_35 : decode cX9_wide 35 = .ok (.getfield 22, 3) := by decide +kernel
theorem dX9_wide_38 : decode cX9_wide 38 = .ok (.iload_n 1, 1) := by decide +kernel
theorem dX9_wide_39 : decode cX9_wide 39 = .ok (.iaload, 1) := by decide +kernel
theorem dX9_wide_40 : decode cX9_wide 40 = .ok (.i2l, 1) := by decide +kernel
theorem dX9_wide_41 : decode cX9_wide 41 = .ok (.lconst 0, 1) := by decide +kernel
theorem dX9_wide_42 : decode cX9_wide 42 = .ok (.aload_n 0, 1) := by decide +kernel
theorem dX9_wide_43 : decode cX9_wide 43 = .ok (.getfield 204, 3) := by decide +kernel
theorem dX9_wide_46 : decode cX9_wide 46 = .ok (.iconst 1, 1) := by decide +kernel
theorem dX9_wide_47 : decode cX9_wide 47 = .ok (.isub, 1) := by decide +kernel
theorem dX9_wide_48 : decode cX9_wide 48 = .ok (.i2l, 1) := by decide +kernel
theorem dX9_wide_49 : decode cX9_wide 49 = .ok (.invokestatic 132, 3) := by decide +kernel
theorem dX9_wide_52 : decode cX9_wide 52 = .ok (.ifCond .ne 5, 3) := by decide +kernel
theorem dX9_wide_55 : decode cX9_wide 55 = .ok (.iconst 4, 1) := by decide +kernel
theorem dX9_wide_56 : decode cX9_wide 56 = .ok (.ireturn, 1) := by decide +kernel
theorem dX9_wide_57 : decode cX9_wide 57 = .ok (.aload_n 0, 1) := by decide +kernel
theorem dX9_wide_58 : decode cX9_wide 58 = .ok (.getfield 53, 3) := by decide +kernel
theorem dX9_wide_61 : decode cX9_wide 61 = .ok (.aload_n 0, 1) := by decide +kernel
theorem dX9_wide_62 : decode cX9_wide 62 = .ok (.getfield 13, 3) := by decide +kernel
theorem dX9_wide_65 : decode cX9_wide 65 = .ok (.iload_n 1, 1) := by decide +kernel
theorem dX9_wide_66 : decode cX9_wide 66 = .ok (.iaload, 1) := by decide +kernel
theorem dX9_wide_67 : decode cX9_wide 67 = .ok (.aload_n 0, 1) := by decide +kernel
theorem dX9_wide_68 : decode cX9_wide 68 = .ok (.getfield 16, 3) := by decide +kernel
theorem dX9_wide_71 : decode cX9_wide 71 = .ok (.iload_n 1, 1) := by decide +kernel
theorem dX9_wide_72 : decode cX9_wide 72 = .ok (.iaload, 1) := by decide +kernel
theorem dX9_wide_73 : decode cX9_wide 73 = .ok (.iconst 1, 1) := by decide +kernel
theorem dX9_wide_74 : decode cX9_wide 74 = .ok (.if_icmp .ne 17, 3) := by decide +kernel
theorem dX9_wide_77 : decode cX9_wide 77 = .ok (.ldc2_w 251, 3) := by decide +kernel
theorem dX9_wide_80 : decode cX9_wide 80 = .ok (.aload_n 0, 1) := by decide +kernel
theorem dX9_wide_81 : decode cX9_wide 81 = .ok (.getfield 22, 3) := by decide +kernel
theorem dX9_wide_84 : decode cX9_wide 84 = .ok (.iload_n 1, 1) := by decide +kernel
theorem dX9_wide_85 : decode cX9_wide 85 = .ok (.iaload, 1) := by decide +kernel
theorem dX9_wide_86 : decode cX9_wide 86 = .ok (.i2l, 1) := by decide +kernel
theorem dX9_wide_87 : decode cX9_wide 87 = .ok (.ladd, 1) := by decide +kernel
theorem dX9_wide_88 : decode cX9_wide 88 = .ok (.goto 27, 3) := by decide +kernel
theorem dX9_wide_91 : decode cX9_wide 91 = .ok (.aload_n 0, 1) := by decide +kernel
theorem dX9_wide_92 : decode cX9_wide 92 = .ok (.getfield 22, 3) := by decide +kernel
theorem dX9_wide_95 : decode cX9_wide 95 = .ok (.iload_n 1, 1) := by decide +kernel
theorem dX9_wide_96 : decode cX9_wide 96 = .ok (.iaload, 1) := by decide +kernel
theorem dX9_wide_97 : decode cX9_wide 97 = .ok (.i2l, 1) := by decide +kernel
theorem dX9_wide_98 : decode cX9_wide 98 = .ok (.ldc2_w 192, 3) := by decide +kernel
theorem dX9_wide_101 : decode cX9_wide 101 = .ok (.land, 1) := by decide +kernel
theorem dX9_wide_102 : decode cX9_wide 102 = .ok (.aload_n 0, 1) := by decide +kernel
theorem dX9_wide_103 : decode cX9_wide 103 = .ok (.getfield 22, 3) := by decide +kernel
theorem dX9_wide_106 : decode cX9_wide 106 = .ok (.iload_n 1, 1) := by decide +kernel
theorem dX9_wide_107 : decode cX9_wide 107 = .ok (.iconst 1, 1) := by decide +kernel
theorem dX9_wide_108 : decode cX9_wide 108 = .ok (.iadd, 1) := by decide +kernel
theorem dX9_wide_109 : decode cX9_wide 109 = .ok (.iaload, 1) := by decide +kernel
theorem dX9_wide_110 : decode cX9_wide 110 = .ok (.i2l, 1) := by decide +kernel
theorem dX9_wide_111 : decode cX9_wide 111 = .ok (.bipush 32, 2) := by decide +kernel
theorem dX9_wide_113 : decode cX9_wide 113 = .ok (.lshl, 1) := by decide +kernel
theorem dX9_wide_114 : decode cX9_wide 114 = .ok (.lor, 1) := by decide +kernel
theorem dX9_wide_115 : decode cX9_wide 115 = .ok (.lastore, 1) := by decide +kernel
theorem dX9_wide_116 : decode cX9_wide 116 = .ok (.aload_n 0, 1) := by decide +kernel
theorem dX9_wide_117 : decode cX9_wide 117 = .ok (.iload_n 1, 1) := by decide +kernel
theorem dX9_wide_118 : decode cX9_wide 118 = .ok (.iconst 2, 1) := by decide +kernel
theorem dX9_wide_119 : decode cX9_wide 119 = .ok (.iadd, 1) := by decide +kernel
theorem dX9_wide_120 : decode cX9_wide 120 = .ok (.putfield 260, 3) := by decide +kernel
theorem dX9_wide_123 : decode cX9_wide 123 = .ok (.iconst 0, 1) := by decide +kernel
theorem dX9_wide_124 : decode cX9_wide 124 = .ok (.ireturn, 1) := by decide +kernel
-- JudgedCodeModel.change
def f_X9_change_52 (S : sh) (D : dt) : Option (Int64 × dt) := some ((-1 : Int64), D)
def f_X9_change_181 (S : sh) : Nat → Nat → Int32 → Int32 → Int32 → dt → Option (Int64 × dt)
  | 0, _, _, _, _, _ => none
  | n + 1, o0, x1, x6, x7, D => rq (gR D o0 12) fun o78 => ix x1 (sA S o78) <| if (gI D o78 x1.toNatClampNeg) ≤ x7 then (some ((0 : Int64), D)) else (rq (gR D o0 14) fun o84 => rq (gR D o0 24) fun o88 => ix x7 (sA S o88) <| ix (((32 : Int32) * x6) + x7) (sA S o84) <| nm (pI D o84 (((32 : Int32) * x6) + x7).toNatClampNeg (gI D o88 x7.toNatClampNeg)) fun D94 => nm (x7 + 1) fun y95 => f_X9_change_181 S n o0 x1 x6 y95 D94)
def f_X9_change_178 (S : sh) (o0 : Nat) (x1 : Int32) (x6 : Int32) (D : dt) : Option (Int64 × dt) := nm ((0 : Int32)) fun y96 => f_X9_change_181 S LF o0 x1 x6 y96 D
def f_X9_change_141 (S : sh) : Nat → Nat → Int32 → Int32 → Int32 → dt → Option (Int64 × dt)
  | 0, _, _, _, _, _ => none
  | n + 1, o0, x1, x6, x7, D => rq (gR D o0 11) fun o97 => ix x1 (sA S o97) <| if (gI D o97 x1.toNatClampNeg) ≤ x7 then (f_X9_change_178 S o0 x1 x6 D) else (rq (gR D o0 16) fun o103 => rq (gR D o0 25) fun o107 => ix x7 (sA S o107) <| ix (((8 : Int32) * x6) + x7) (sA S o103) <| nm (pI D o103 (((8 : Int32) * x6) + x7).toNatClampNeg (gI D o107 x7.toNatClampNeg)) fun D113 => nm (x7 + 1) fun y114 => f_X9_change_141 S n o0 x1 x6 y114 D113)
def f_X9_change_108 (S : sh) (o0 : Nat) (x1 : Int32) (x2 : Int32) (x5 : Int32) (D : dt) : Option (Int64 × dt) := if 0 ≤ x5 then (nm (((32 : Int32) * x1) + x5) fun y116 => if 0 ≤ x2 then (f_X9_change_178 S o0 x1 y116 D) else (rq (gR D o0 15) fun o118 => ix y116 (sA S o118) <| nm (pI D o118 y116.toNatClampNeg (vp_nar .boolean (1 : Int32))) fun D123 => nm ((0 : Int32)) fun y124 => f_X9_change_141 S LF o0 x1 y116 y124 D123)) else (some ((-1 : Int64), D))
def f_X9_change_100 (S : sh) (k69 : Nat → Int32 → Int32 → Int32 → Int32 → dt → Option (Int64 × dt)) (o0 : Nat) (x1 : Int32) (x2 : Int32) (x6 : Int32) (xs0 : Int32) (D : dt) : Option (Int64 × dt) := nm (x6 + (-1)) fun y125 => k69 o0 x1 x2 xs0 y125 D
def f_X9_change_69 (S : sh) : Nat → Nat → Int32 → Int32 → Int32 → Int32 → dt → Option (Int64 × dt)
  | 0, _, _, _, _, _, _ => none
  | n + 1, o0, x1, x2, x5, x6, D => if x6 < 0 then (f_X9_change_108 S o0 x1 x2 x5 D) else (if 0 ≤ x2 then (f_X9_change_108 S o0 x1 x2 x5 D) else (rq (gR D o0 15) fun o128 => ix (((32 : Int32) * x1) + x6) (sA S o128) <| if (gI D o128 (((32 : Int32) * x1) + x6).toNatClampNeg) = 0 then (f_X9_change_100 S (f_X9_change_69 S n) o0 x1 x2 x6 x6 D) else (f_X9_change_100 S (f_X9_change_69 S n) o0 x1 x2 x6 x5 D)))
def f_X9_change_56 (S : sh) (o0 : Nat) (x1 : Int32) (x2 : Int32) (D : dt) : Option (Int64 × dt) := rq (gR D o0 13) fun o134 => ix x1 (sA S o134) <| nm ((gI D o134 x1.toNatClampNeg) - (1 : Int32)) fun y139 => f_X9_change_69 S LF o0 x1 x2 x2 y139 D
def f_X9_change_40 (S : sh) (o0 : Nat) (x1 : Int32) (x2 : Int32) (x3 : Int64) (D : dt) : Option (Int64 × dt) := if (lg_cmp x3 (2 : Int64)) = 0 then (if 0 ≤ x2 then (f_X9_change_56 S o0 x1 x2 D) else (f_X9_change_52 S D)) else (f_X9_change_56 S o0 x1 x2 D)
def f_X9_change_30 (S : sh) (o0 : Nat) (x1 : Int32) (x2 : Int32) (x3 : Int64) (D : dt) : Option (Int64 × dt) := if (lg_cmp x3 (1 : Int64)) = 0 then (if 0 ≤ x2 then (f_X9_change_52 S D) else (f_X9_change_40 S o0 x1 x2 x3 D)) else (f_X9_change_40 S o0 x1 x2 x3 D)
def f_X9_change (S : sh) (o0 : Nat) (x1 : Int32) (x2 : Int32) (x3 : Int64) (D : dt) : Option (Int64 × dt) := pq (f_X9_in x3 (0 : Int64) (2 : Int64)) fun r145 => if r145 = 0 then (f_X9_change_52 S D) else (rq (gR D o0 10) fun o147 => ix x1 (sA S o147) <| if (gI D o147 x1.toNatClampNeg) = 0 then (if (lg_cmp x3 (1 : Int64)) = 0 then (f_X9_change_52 S D) else (if x2 < 0 then (f_X9_change_52 S D) else (f_X9_change_30 S o0 x1 x2 x3 D))) else (f_X9_change_30 S o0 x1 x2 x3 D))
-- JudgedCodeModel.call
def f_X9_call_357 (S : sh) : Nat → Nat → Int32 → dt → Option (Int32 × dt)
  | 0, _, _, _ => none
  | n + 1, o0, x4, D => if (6 : Int32) ≤ x4 then (some ((1 : Int32), D)) else (rq (gR D o0 21) fun o150 => ix x4 (sA S o150) <| nm (pL D o150 x4.toNatClampNeg (0 : Int64)) fun D155 => nm (x4 + 1) fun y156 => f_X9_call_357 S n o0 y156 D155)
def f_X9_call_347 (S : sh) (o0 : Nat) (x2 : Int64) (D : dt) : Option (Int32 × dt) := rq (gR D o0 21) fun o157 => ix (0 : Int32) (sA S o157) <| nm (pL D o157 (0 : Int32).toNatClampNeg x2) fun D162 => nm ((1 : Int32)) fun y163 => f_X9_call_357 S LF o0 y163 D162
def f_X9_call_346 (S : sh) (o0 : Nat) (xs0 : Int64) (D : dt) : Option (Int32 × dt) := f_X9_call_347 S o0 xs0 D
def f_X9_call_334 (S : sh) (o0 : Nat) (x6 : Int32) (D : dt) : Option (Int32 × dt) := if x6 = 0 then (f_X9_call_346 S o0 (-1 : Int64) D) else (f_X9_call_346 S o0 (0 : Int64) D)
def f_X9_call_313 (S : sh) (o0 : Nat) (x4 : Int32) (x5 : Int32) (xs0 : Int32) (D : dt) : Option (Int32 × dt) := if xs0 = 0 then (f_X9_call_334 S o0 xs0 D) else (rq (gR D o0 15) fun o166 => ix (((32 : Int32) * x4) + x5) (sA S o166) <| nm (pI D o166 (((32 : Int32) * x4) + x5).toNatClampNeg (vp_nar .boolean (0 : Int32))) fun D171 => f_X9_call_334 S o0 xs0 D171)
def f_X9_call_312 (S : sh) (o0 : Nat) (x4 : Int32) (x5 : Int32) (D : dt) : Option (Int32 × dt) := f_X9_call_313 S o0 x4 x5 (0 : Int32) D
def f_X9_call_265 (S : sh) (o0 : Nat) (xs0 : Int64) (D : dt) : Option (Int32 × dt) := f_X9_call_347 S o0 xs0 D
def f_X9_call_226 (S : sh) (o0 : Nat) (x1 : Int32) (x4 : Int32) (D : dt) : Option (Int32 × dt) := cq (f_X9_find S o0 x4 D) fun r173 D174 => if x1 = (1 : Int32) then (if 0 ≤ r173 then (f_X9_call_265 S o0 (((34359738368 : Int64) + (j_lshl x4.toInt64 (24 : Int32))) + (j_lshl r173.toInt64 (12 : Int32))) D174) else (f_X9_call_265 S o0 (0 : Int64) D174)) else (if x1 = (2 : Int32) then (rq (gR D174 o0 21) fun o184 => ix (4 : Int32) (sA S o184) <| cq (f_X9_change S o0 x4 r173 (gL D174 o184 (4 : Int32).toNatClampNeg) D174) fun r190 D191 => f_X9_call_347 S o0 r190 D191) else (rq (gR D174 o0 10) fun o177 => ix x4 (sA S o177) <| if (gI D174 o177 x4.toNatClampNeg) = (1 : Int32) then (if r173 < 0 then (f_X9_call_312 S o0 x4 r173 D174) else (f_X9_call_313 S o0 x4 r173 (1 : Int32) D174)) else (f_X9_call_312 S o0 x4 r173 D174)))
def f_X9_call_182 (S : sh) : Nat → Nat → Int32 → Int32 → Int32 → dt → Option (Int32 × dt)
  | 0, _, _, _, _, _ => none
  | n + 1, o0, x1, x4, x5, D => rq (gR D o0 12) fun o193 => ix x4 (sA S o193) <| if (gI D o193 x4.toNatClampNeg) ≤ x5 then (f_X9_call_226 S o0 x1 x4 D) else (if x1 = (2 : Int32) then (rq (gR D o0 24) fun o200 => rq (gR D o0 21) fun o204 => ix (3 : Int32) (sA S o204) <| cq (f_X9_octetAt S o0 ((gL D o204 (3 : Int32).toNatClampNeg) + x5.toInt64) D) fun r210 D211 => ix x5 (sA S o200) <| nm (pI D211 o200 x5.toNatClampNeg r210) fun D213 => nm (x5 + 1) fun y214 => f_X9_call_182 S n o0 x1 x4 y214 D213) else (f_X9_call_226 S o0 x1 x4 D))
def f_X9_call_140 (S : sh) : Nat → Nat → Int32 → Int32 → Int32 → dt → Option (Int32 × dt)
  | 0, _, _, _, _, _ => none
  | n + 1, o0, x1, x4, x5, D => rq (gR D o0 11) fun o215 => ix x4 (sA S o215) <| if (gI D o215 x4.toNatClampNeg) ≤ x5 then (nm ((0 : Int32)) fun y221 => f_X9_call_182 S LF o0 x1 x4 y221 D) else (rq (gR D o0 25) fun o222 => rq (gR D o0 21) fun o226 => ix (2 : Int32) (sA S o226) <| cq (f_X9_octetAt S o0 ((gL D o226 (2 : Int32).toNatClampNeg) + x5.toInt64) D) fun r232 D233 => ix x5 (sA S o222) <| nm (pI D233 o222 x5.toNatClampNeg r232) fun D235 => nm (x5 + 1) fun y236 => f_X9_call_140 S n o0 x1 x4 y236 D235)
def f_X9_call_137 (S : sh) (o0 : Nat) (x1 : Int32) (x4 : Int32) (D : dt) : Option (Int32 × dt) := nm ((0 : Int32)) fun y237 => f_X9_call_140 S LF o0 x1 x4 y237 D
def f_X9_call (S : sh) (o0 : Nat) (x1 : Int32) (D : dt) : Option (Int32 × dt) := nm (gL D o0 17) fun y238 => if x1 = (6 : Int32) then (rq (gR D o0 23) fun o284 => rq (gR D o0 21) fun o288 => ix (1 : Int32) (sA S o288) <| ix ((gI D o0 22) - (gI D o0 22) / (32 : Int32) * (32 : Int32)) (sA S o284) <| nm (pL D o284 ((gI D o0 22) - (gI D o0 22) / (32 : Int32) * (32 : Int32)).toNatClampNeg (gL D o288 (1 : Int32).toNatClampNeg)) fun D294 => nm (pI D294 o0 22 ((gI D294 o0 22) + (1 : Int32))) fun D295 => nm ((0 : Int64)) fun y296 => f_X9_call_347 S o0 y296 D295) else (if (4 : Int32) ≤ x1 then (f_X9_call_347 S o0 y238 D) else (rq (gR D o0 21) fun o241 => ix (1 : Int32) (sA S o241) <| nm (((gL D o241 (1 : Int32).toNatClampNeg) - (17179869184 : Int64)).toInt32) fun y246 => rq (gR D o0 21) fun o247 => ix (1 : Int32) (sA S o247) <| pq (f_X9_in (gL D o247 (1 : Int32).toNatClampNeg) (17179869184 : Int64) (((17179869184 : Int64) + ((gI D o0 9).toInt64)) - (1 : Int64))) fun r253 => if r253 = 0 then (some ((0 : Int32), D)) else (rq (gR D o0 21) fun o255 => ix (2 : Int32) (sA S o255) <| rq (gR D o0 11) fun o260 => ix y246 (sA S o260) <| cq (f_X9_isThere S o0 (gL D o255 (2 : Int32).toNatClampNeg) (gI D o260 y246.toNatClampNeg) (0 : Int32) D) fun r266 D267 => if r266 = 0 then (some ((0 : Int32), D267)) else (if x1 = (2 : Int32) then (rq (gR D267 o0 21) fun o270 => ix (3 : Int32) (sA S o270) <| rq (gR D267 o0 12) fun o275 => ix y246 (sA S o275) <| cq (f_X9_isThere S o0 (gL D267 o270 (3 : Int32).toNatClampNeg) (gI D267 o275 y246.toNatClampNeg) (0 : Int32) D267) fun r281 D282 => if r281 = 0 then (some ((0 : Int32), D282)) else (f_X9_call_137 S o0 x1 y246 D282)) else (f_X9_call_137 S o0 x1 y246 D267)))))
-- JudgedCodeModel.start
def f_X9_start_56 (S : sh) : Nat → Nat → Int32 → dt → Option (Int32 × dt)
  | 0, _, _, _ => none
  | n + 1, o0, x1, D => if (512 : Int32) ≤ x1 then (nm (pI D o0 19 (0 : Int32)) fun D27 => nm (pI D27 o0 20 (0 : Int32)) fun D28 => nm (pI D28 o0 22 (0 : Int32)) fun D29 => nm (pI D29 o0 18 (1 : Int32)) fun D30 => some ((1 : Int32), D30)) else (rq (gR D o0 8) fun o31 => ix x1 (sA S o31) <| nm (pI D o31 x1.toNatClampNeg (0 : Int32)) fun D36 => nm (x1 + 1) fun y37 => f_X9_start_56 S n o0 y37 D36)
def f_X9_start_47 (S : sh) (k12 : Nat → Int32 → dt → Option (Int32 × dt)) (o0 : Nat) (x1 : Int32) (os0 : Nat) (xs1 : Int32) (xs2 : Int64) (D : dt) : Option (Int32 × dt) := ix xs1 (sA S os0) <| nm (pL D os0 xs1.toNatClampNeg xs2) fun D39 => nm (x1 + 1) fun y40 => k12 o0 y40 D39
def f_X9_start_12 (S : sh) : Nat → Nat → Int32 → dt → Option (Int32 × dt)
  | 0, _, _, _ => none
  | n + 1, o0, x1, D => if (11 : Int32) ≤ x1 then (nm ((0 : Int32)) fun y42 => f_X9_start_56 S LF o0 y42 D) else (rq (gR D o0 21) fun o43 => if x1 = (1 : Int32) then (f_X9_start_47 S (f_X9_start_12 S n) o0 x1 o43 x1 (4294967296 : Int64) D) else (if x1 = (10 : Int32) then (f_X9_start_47 S (f_X9_start_12 S n) o0 x1 o43 x1 (8589934592 : Int64) D) else (f_X9_start_47 S (f_X9_start_12 S n) o0 x1 o43 x1 (0 : Int64) D)))
def f_X9_start (S : sh) (o0 : Nat) (D : dt) : Option (Int32 × dt) := if (gI D o0 0) = 0 then (some ((-3 : Int32), D)) else (nm ((0 : Int32)) fun y50 => f_X9_start_12 S LF o0 y50 D)
-- JudgedCodeModel.load
def f_X9_load_71 (S : sh) (os0 : Nat) (xs1 : Int32) (xs2 : Int64) (D : dt) : Option (Int32 × dt) := ix xs1 (sA S os0) <| nm (pL D os0 xs1.toNatClampNeg xs2) fun D39 => some ((1 : Int32), D39)
def f_X9_load (S : sh) (o0 : Nat) (x1 : Int32) (x2 : Int32) (x3 : Int32) (D : dt) : Option (Int32 × dt) := rq (gR D o0 21) fun o40 => rq (gR D o0 3) fun o44 => ix x1 (sA S o44) <| ix (gI D o44 x1.toNatClampNeg) (sA S o40) <| rq (gR D o0 4) fun o50 => ix x1 (sA S o50) <| nm ((gL D o40 (gI D o44 x1.toNatClampNeg).toNatClampNeg) + ((gI D o50 x1.toNatClampNeg).toInt64)) fun y55 => cq (f_X9_isThere S o0 y55 x2 (0 : Int32) D) fun r57 D58 => if r57 = 0 then (some ((0 : Int32), D58)) else (cq (f_X9_numberAt S o0 y55 x2 D58) fun r61 D62 => rq (gR D62 o0 21) fun o63 => rq (gR D62 o0 2) fun o67 => ix x1 (sA S o67) <| if x3 = 0 then (f_X9_load_71 S o63 (gI D62 o67 x1.toNatClampNeg) r61 D62) else (pq (f_X9_signed r61 ((8 : Int32) * x2)) fun r74 => f_X9_load_71 S o63 (gI D62 o67 x1.toNatClampNeg) r74 D62))
-- JudgedCodeModel.put
def f_X9_put (S : sh) (o0 : Nat) (x1 : Int32) (x2 : Int32) (x3 : Int64) (D : dt) : Option (Int32 × dt) := rq (gR D o0 21) fun o23 => rq (gR D o0 2) fun o27 => ix x1 (sA S o27) <| ix (gI D o27 x1.toNatClampNeg) (sA S o23) <| rq (gR D o0 4) fun o33 => ix x1 (sA S o33) <| nm ((gL D o23 (gI D o27 x1.toNatClampNeg).toNatClampNeg) + ((gI D o33 x1.toNatClampNeg).toInt64)) fun y38 => cq (f_X9_isThere S o0 y38 x2 (1 : Int32) D) fun r40 D41 => if r40 = 0 then (some ((0 : Int32), D41)) else (cq (f_X9_setNumber S o0 y38 x2 x3 D41) fun _ D44 => some ((1 : Int32), D44))
-- JudgedCodeModel.both
def f_X9_both_193 (S : sh) (o0 : Nat) (x1 : Int32) (x5 : Int64) (x9 : Int32) (os0 : Nat) (xs1 : Int64) (xs2 : Int32) (xs3 : Int64) (D : dt) : Option (Int32 × dt) := cq (f_X9_setNumber S os0 xs1 xs2 xs3 D) fun _ D82 => if (x9 &&& (1 : Int32)) = (1 : Int32) then (rq (gR D82 o0 21) fun o84 => rq (gR D82 o0 3) fun o88 => ix x1 (sA S o88) <| ix (gI D82 o88 x1.toNatClampNeg) (sA S o84) <| nm (pL D82 o84 (gI D82 o88 x1.toNatClampNeg).toNatClampNeg x5) fun D94 => some ((1 : Int32), D94)) else (some ((1 : Int32), D82))
def f_X9_both_112 (S : sh) (o0 : Nat) (x5 : Int64) (D : dt) : Option (Int32 × dt) := rq (gR D o0 21) fun o95 => ix (0 : Int32) (sA S o95) <| nm (pL D o95 (0 : Int32).toNatClampNeg x5) fun D100 => some ((1 : Int32), D100)
def f_X9_both_94 (S : sh) (o0 : Nat) (x2 : Int32) (x3 : Int64) (x5 : Int64) (x7 : Int64) (xs0 : Int64) (D : dt) : Option (Int32 × dt) := if (lg_cmp xs0 x5) = 0 then (cq (f_X9_setNumber S o0 x3 x2 x7 D) fun _ D103 => f_X9_both_112 S o0 x5 D103) else (f_X9_both_112 S o0 x5 D)
def f_X9_both (S : sh) (o0 : Nat) (x1 : Int32) (x2 : Int32) (D : dt) : Option (Int32 × dt) := rq (gR D o0 21) fun o104 => rq (gR D o0 2) fun o108 => ix x1 (sA S o108) <| ix (gI D o108 x1.toNatClampNeg) (sA S o104) <| rq (gR D o0 4) fun o114 => ix x1 (sA S o114) <| nm ((gL D o104 (gI D o108 x1.toNatClampNeg).toNatClampNeg) + ((gI D o114 x1.toNatClampNeg).toInt64)) fun y119 => cq (f_X9_isThere S o0 y119 x2 (1 : Int32) D) fun r121 D122 => if r121 = 0 then (some ((0 : Int32), D122)) else (cq (f_X9_numberAt S o0 y119 x2 D122) fun r125 D126 => rq (gR D126 o0 21) fun o127 => rq (gR D126 o0 3) fun o131 => ix x1 (sA S o131) <| ix (gI D126 o131 x1.toNatClampNeg) (sA S o127) <| nm (gL D126 o127 (gI D126 o131 x1.toNatClampNeg).toNatClampNeg) fun y137 => rq (gR D126 o0 5) fun o138 => ix x1 (sA S o138) <| nm (gI D126 o138 x1.toNatClampNeg) fun y143 => if y143 = (241 : Int32) then (if x2 = (8 : Int32) then (rq (gR D126 o0 21) fun o156 => ix (0 : Int32) (sA S o156) <| f_X9_both_94 S o0 x2 y119 r125 y137 (gL D126 o156 (0 : Int32).toNatClampNeg) D126) else (rq (gR D126 o0 21) fun o151 => ix (0 : Int32) (sA S o151) <| f_X9_both_94 S o0 x2 y119 r125 y137 ((gL D126 o151 (0 : Int32).toNatClampNeg) &&& (4294967295 : Int64)) D126)) else (nm (y143 &&& (-2 : Int32)) fun y145 => if y145 = 0 then (f_X9_both_193 S o0 x1 r125 y143 o0 y119 x2 (r125 + y137) D126) else (if y145 = (64 : Int32) then (f_X9_both_193 S o0 x1 r125 y143 o0 y119 x2 (r125 ||| y137) D126) else (if y145 = (80 : Int32) then (f_X9_both_193 S o0 x1 r125 y143 o0 y119 x2 (r125 &&& y137) D126) else (if y145 = (160 : Int32) then (f_X9_both_193 S o0 x1 r125 y143 o0 y119 x2 (r125 ^^^ y137) D126) else (f_X9_both_193 S o0 x1 r125 y143 o0 y119 x2 y137 D126))))))
-- JudgedCodeModel.wide
def f_X9_wide_115 (S : sh) (o0 : Nat) (x1 : Int32) (os0 : Nat) (xs1 : Int32) (xs2 : Int64) (D : dt) : Option (Int32 × dt) := ix xs1 (sA S os0) <| nm (pL D os0 xs1.toNatClampNeg xs2) fun D54 => nm (pI D54 o0 19 (x1 + (2 : Int32))) fun D55 => some ((0 : Int32), D55)
def f_X9_wide_57 (S : sh) (o0 : Nat) (x1 : Int32) (D : dt) : Option (Int32 × dt) := rq (gR D o0 21) fun o56 => rq (gR D o0 2) fun o60 => ix x1 (sA S o60) <| rq (gR D o0 3) fun o65 => ix x1 (sA S o65) <| if (gI D o65 x1.toNatClampNeg) = (1 : Int32) then (rq (gR D o0 5) fun o81 => ix x1 (sA S o81) <| f_X9_wide_115 S o0 x1 o56 (gI D o60 x1.toNatClampNeg) ((17179869184 : Int64) + ((gI D o81 x1.toNatClampNeg).toInt64)) D) else (rq (gR D o0 5) fun o71 => ix x1 (sA S o71) <| rq (gR D o0 5) fun o76 => ix (x1 + (1 : Int32)) (sA S o76) <| f_X9_wide_115 S o0 x1 o56 (gI D o60 x1.toNatClampNeg) ((((gI D o71 x1.toNatClampNeg).toInt64) &&& (4294967295 : Int64)) ||| (j_lshl ((gI D o76 (x1 + (1 : Int32)).toNatClampNeg).toInt64) (32 : Int32))) D)
def f_X9_wide (S : sh) (o0 : Nat) (x1 : Int32) (D : dt) : Option (Int32 × dt) := if (x1 + (1 : Int32)) = (gI D o0 0) then (some ((5 : Int32), D)) else (cq (f_X9_isSecond S o0 (x1 + (1 : Int32)) D) fun r88 D89 => if r88 = 0 then (some ((3 : Int32), D89)) else (rq (gR D89 o0 3) fun o91 => ix x1 (sA S o91) <| if (gI D89 o91 x1.toNatClampNeg) = (1 : Int32) then (rq (gR D89 o0 5) fun o97 => ix x1 (sA S o97) <| pq (f_X9_in ((gI D89 o97 x1.toNatClampNeg).toInt64) (0 : Int64) (((gI D89 o0 9) - (1 : Int32)).toInt64)) fun r103 => if r103 = 0 then (some ((4 : Int32), D89)) else (f_X9_wide_57 S o0 x1 D89)) else (f_X9_wide_57 S o0 x1 D89)))
theorem mk_X9_change : MkV yX9_change RX9 cX9_change 8 (some .long) 3 := ⟨⟨lk_1378, lk_76, lk_121, (tb_in (i := 1379) (by decide +kernel) (by decide +kernel))⟩, by decide +kernel⟩
theorem mk_X9_call : MkV yX9_call RX9 cX9_call 7 (some .boolean) 1 := ⟨⟨lk_1369, lk_74, lk_121, (tb_in (i := 1370) (by decide +kernel) (by decide +kernel))⟩, by decide +kernel⟩
theorem mk_X9_start : MkV yX9_start RX9 cX9_start 2 (some .int) 0 := ⟨⟨lk_1294, lk_1295, lk_121, (tb_in (i := 1296) (by decide +kernel) (by decide +kernel))⟩, by decide +kernel⟩
theorem mk_X9_load : MkV yX9_load RX9 cX9_load 8 (some .boolean) 3 := ⟨⟨lk_1383, lk_77, lk_121, (tb_in (i := 1384) (by decide +kernel) (by decide +kernel))⟩, by decide +kernel⟩
theorem mk_X9_put : MkV yX9_put RX9 cX9_put 7 (some .boolean) 3 := ⟨⟨lk_1391, lk_79, lk_121, (tb_in (i := 1392) (by decide +kernel) (by decide +kernel))⟩, by decide +kernel⟩
theorem mk_X9_both : MkV yX9_both RX9 cX9_both 12 (some .boolean) 2 := ⟨⟨lk_1403, lk_82, lk_121, (tb_in (i := 1404) (by decide +kernel) (by decide +kernel))⟩, by decide +kernel⟩
theorem mk_X9_wide : MkV yX9_wide RX9 cX9_wide 2 (some .int) 1 := ⟨⟨lk_1407, lk_83, lk_121, (tb_in (i := 1408) (by decide +kernel) (by decide +kernel))⟩, by decide +kernel⟩
section
variable {p : Program} {l : Launch} {e : Env} {R : Room} {s : State} {m : MethodId} {args : Array Value} {below : List Frame} {meth : Method} {c : Code} {H : Heap} {locs : List Loc} {G : va_G} {cA : Nat → ClassId} {S : sh} {D : dt} {ad : Nat → Nat} {A : Nat → Prop}
set_option maxHeartbeats 4000000 in
set_option maxRecDepth 100000 in
theorem w_X9_change_52 {r : Int64} {D' : dt} (hC : Cx RX9 cX9_change 8 (some .long) p s m args meth c) (hR : 1 ≤ R.frames ∧ 25 ≤ R.locals) : ∀  (D : dt) (H : Heap) (locs : List Loc) (ls : Array Slot), Wd G cA S D ad A s H locs → lv_has ls 8 [] → f_X9_change_52 S D = some (r, D') → W p l e R s m args below meth c H locs 0 0 (MQ below (Qn (some (.long r)) True (wpost G cA S D' ad A) A) args s 0 0 A) (F0 m 52 ls []) := by
  obtain ⟨hx, hb, -⟩ := id hC
  intro D H locs ls  hw hl h
  unfold f_X9_change_52 at h
  refine lv_ldc2 (v := (-1)) hx hb hC.2.2.2.1 (hC.2.2.2.2.1 _ lk_1362) dX9_change_52 ?_
  cases h
  exact r_lret hC hw dX9_change_55
set_option maxHeartbeats 4000000 in
set_option maxRecDepth 100000 in
theorem w_X9_change_181 {r : Int64} {D' : dt} (hC : Cx RX9 cX9_change 8 (some .long) p s m args meth c) (hR : 1 ≤ R.frames ∧ 25 ≤ R.locals) : ∀ (n : Nat), ∀ (o0 a0 : Nat) (x1 : Int32) (x6 : Int32) (x7 : Int32) (D : dt) (H : Heap) (locs : List Loc) (ls : Array Slot), Is S ad o0 a0 8 → Wd G cA S D ad A s H locs → lv_has ls 8 [(0, .ref a0), (1, .int x1), (6, .int x6), (7, .int x7)] → f_X9_change_181 S n o0 x1 x6 x7 D = some (r, D') → W p l e R s m args below meth c H locs 0 0 (MQ below (Qn (some (.long r)) True (wpost G cA S D' ad A) A) args s 0 0 A) (F0 m 181 ls []) := by
  obtain ⟨hx, hb, -⟩ := id hC
  intro n
  induction n with
  | zero =>
    intro o0 a0 x1 x6 x7 D H locs ls hi0 hw hl h
    rw [f_X9_change_181.eq_1] at h
    cases h
  | succ n ih =>
    intro o0 a0 x1 x6 x7 D H locs ls hi0 hw hl h
    rw [f_X9_change_181.eq_2] at h
    refine lv_iload hx hb dX9_change_181 (lv_at hl 3 rfl) ?_
    refine lv_aload_n hx hb dX9_change_183 rfl (lv_at hl 0 rfl) ?_
    obtain ⟨o78, ho81, h⟩ := rq_i h
    refine r_getR hC hw kc_8 hi0 12 rfl lk_1081 dX9_change_184 rfl ho81 (fun a79 hi80 => ?_)
    refine lv_iload_n hx hb dX9_change_187 rfl (lv_at hl 1 rfl) ?_
    obtain ⟨hn82, h⟩ := ix_i h
    refine r_iald hC hw hi80 hn82 dX9_change_188 ?_
    refine lv_icmp_ge (tgt := 218) hx hb dX9_change_189 (by decide) (fun c83 => ?_) (fun c83 => ?_)
    · have h := i_yes c83 h
      refine lv_lconst (v := 0) hx hb dX9_change_218 (by decide) ?_
      cases h
      exact r_lret hC hw dX9_change_219
    · have h := i_no c83 h
      refine lv_aload_n hx hb dX9_change_192 rfl (lv_at hl 0 rfl) ?_
      obtain ⟨o84, ho87, h⟩ := rq_i h
      refine r_getR hC hw kc_8 hi0 14 rfl lk_1083 dX9_change_193 rfl ho87 (fun a85 hi86 => ?_)
      refine lv_bipush (v := 32) hx hb dX9_change_196 (by decide) ?_
      refine lv_iload hx hb dX9_change_198 (lv_at hl 2 rfl) ?_
      refine lv_imul hx hb dX9_change_200 ?_
      refine lv_iload hx hb dX9_change_201 (lv_at hl 3 rfl) ?_
      refine lv_iadd hx hb dX9_change_203 ?_
      refine lv_aload_n hx hb dX9_change_204 rfl (lv_at hl 0 rfl) ?_
      obtain ⟨o88, ho91, h⟩ := rq_i h
      refine r_getR hC hw kc_8 hi0 24 rfl lk_1093 dX9_change_205 rfl ho91 (fun a89 hi90 => ?_)
      refine lv_iload hx hb dX9_change_208 (lv_at hl 3 rfl) ?_
      obtain ⟨hn92, h⟩ := ix_i h
      refine r_iald hC hw hi90 hn92 dX9_change_210 ?_
      obtain ⟨hn93, h⟩ := ix_i h
      refine r_ias hC hw hi86 hn93 dX9_change_211 (fun D94 eD94 H locs hw => ?_)
      have h := nm_i h D94 eD94
      obtain ⟨y95, ey95⟩ : ∃ z : Int32, z = x7 + 1 := ⟨_, rfl⟩
      have h := nm_i h y95 ey95
      refine lv_iinc (v := y95) (lv' := [(7, .int y95), (0, .ref a0), (1, .int x1), (6, .int x6)]) hx hb dX9_change_212 hl (k := 3) rfl (by rw [ey95]; rfl) (by decide) rfl (fun ls hl => ?_)
      refine lv_goto (tgt := 181) hx hb dX9_change_215 (by decide) ?_
      exact ih o0 a0 x1 x6 y95 _ _ _ _ hi0 hw (lv_sub hl [1, 2, 3, 0] rfl) h
set_option maxHeartbeats 4000000 in
set_option maxRecDepth 100000 in
theorem w_X9_change_178 {r : Int64} {D' : dt} (hC : Cx RX9 cX9_change 8 (some .long) p s m args meth c) (hR : 1 ≤ R.frames ∧ 25 ≤ R.locals) : ∀ (o0 a0 : Nat) (x1 : Int32) (x6 : Int32) (D : dt) (H : Heap) (locs : List Loc) (ls : Array Slot), Is S ad o0 a0 8 → Wd G cA S D ad A s H locs → lv_has ls 8 [(0, .ref a0), (1, .int x1), (6, .int x6)] → f_X9_change_178 S o0 x1 x6 D = some (r, D') → W p l e R s m args below meth c H locs 0 0 (MQ below (Qn (some (.long r)) True (wpost G cA S D' ad A) A) args s 0 0 A) (F0 m 178 ls []) := by
  obtain ⟨hx, hb, -⟩ := id hC
  intro o0 a0 x1 x6 D H locs ls hi0 hw hl h
  unfold f_X9_change_178 at h
  refine lv_iconst (v := 0) hx hb dX9_change_178 (by decide) ?_
  refine lv_topi (fun y96 ey96 => ?_)
  have h := nm_i h y96 ey96
  refine lv_istore (lv' := [(7, .int y96), (0, .ref a0), (1, .int x1), (6, .int x6)]) hx hb dX9_change_179 hl (by decide) rfl (fun ls hl => ?_)
  exact w_X9_change_181 hC hR LF o0 a0 x1 x6 y96 _ _ _ _ hi0 hw (lv_sub hl [1, 2, 3, 0] rfl) h
set_option maxHeartbeats 4000000 in
set_option maxRecDepth 100000 in
theorem w_X9_change_141 {r : Int64} {D' : dt} (hC : Cx RX9 cX9_change 8 (some .long) p s m args meth c) (hR : 1 ≤ R.frames ∧ 25 ≤ R.locals) : ∀ (n : Nat), ∀ (o0 a0 : Nat) (x1 : Int32) (x6 : Int32) (x7 : Int32) (D : dt) (H : Heap) (locs : List Loc) (ls : Array Slot), Is S ad o0 a0 8 → Wd G cA S D ad A s H locs → lv_has ls 8 [(0, .ref a0), (1, .int x1), (6, .int x6), (7, .int x7)] → f_X9_change_141 S n o0 x1 x6 x7 D = some (r, D') → W p l e R s m args below meth c H locs 0 0 (MQ below (Qn (some (.long r)) True (wpost G cA S D' ad A) A) args s 0 0 A) (F0 m 141 ls []) := by
  obtain ⟨hx, hb, -⟩ := id hC
  intro n
  induction n with
  | zero =>
    intro o0 a0 x1 x6 x7 D H locs ls hi0 hw hl h
    rw [f_X9_change_141.eq_1] at h
    cases h
  | succ n ih =>
    intro o0 a0 x1 x6 x7 D H locs ls hi0 hw hl h
    rw [f_X9_change_141.eq_2] at h
    refine lv_iload hx hb dX9_change_141 (lv_at hl 3 rfl) ?_
    refine lv_aload_n hx hb dX9_change_143 rfl (lv_at hl 0 rfl) ?_
    obtain ⟨o97, ho100, h⟩ := rq_i h
    refine r_getR hC hw kc_8 hi0 11 rfl lk_1080 dX9_change_144 rfl ho100 (fun a98 hi99 => ?_)
    refine lv_iload_n hx hb dX9_change_147 rfl (lv_at hl 1 rfl) ?_
    obtain ⟨hn101, h⟩ := ix_i h
    refine r_iald hC hw hi99 hn101 dX9_change_148 ?_
    refine lv_icmp_ge (tgt := 178) hx hb dX9_change_149 (by decide) (fun c102 => ?_) (fun c102 => ?_)
    · have h := i_yes c102 h
      exact w_X9_change_178 hC hR o0 a0 x1 x6 _ _ _ _ hi0 hw (lv_sub hl [0, 1, 2] rfl) h
    · have h := i_no c102 h
      refine lv_aload_n hx hb dX9_change_152 rfl (lv_at hl 0 rfl) ?_
      obtain ⟨o103, ho106, h⟩ := rq_i h
      refine r_getR hC hw kc_8 hi0 16 rfl lk_1085 dX9_change_153 rfl ho106 (fun a104 hi105 => ?_)
      refine lv_bipush (v := 8) hx hb dX9_change_156 (by decide) ?_
      refine lv_iload hx hb dX9_change_158 (lv_at hl 2 rfl) ?_
      refine lv_imul hx hb dX9_change_160 ?_
      refine lv_iload hx hb dX9_change_161 (lv_at hl 3 rfl) ?_
      refine lv_iadd hx hb dX9_change_163 ?_
      refine lv_aload_n hx hb dX9_change_164 rfl (lv_at hl 0 rfl) ?_
      obtain ⟨o107, ho110, h⟩ := rq_i h
      refine r_getR hC hw kc_8 hi0 25 rfl lk_1094 dX9_change_165 rfl ho110 (fun a108 hi109 => ?_)
      refine lv_iload hx hb dX9_change_168 (lv_at hl 3 rfl) ?_
      obtain ⟨hn111, h⟩ := ix_i h
      refine r_iald hC hw hi109 hn111 dX9_change_170 ?_
      obtain ⟨hn112, h⟩ := ix_i h
      refine r_ias hC hw hi105 hn112 dX9_change_171 (fun D113 eD113 H locs hw => ?_)
      have h := nm_i h D113 eD113
      obtain ⟨y114, ey114⟩ : ∃ z : Int32, z = x7 + 1 := ⟨_, rfl⟩
      have h := nm_i h y114 ey114
      refine lv_iinc (v := y114) (lv' := [(7, .int y114), (0, .ref a0), (1, .int x1), (6, .int x6)]) hx hb dX9_change_172 hl (k := 3) rfl (by rw [ey114]; rfl) (by decide) rfl (fun ls hl => ?_)
      refine lv_goto (tgt := 141) hx hb dX9_change_175 (by decide) ?_
      exact ih o0 a0 x1 x6 y114 _ _ _ _ hi0 hw (lv_sub hl [1, 2, 3, 0] rfl) h
set_option maxHeartbeats 4000000 in
set_option maxRecDepth 100000 in
theorem w_X9_change_108 {r : Int64} {D' : dt} (hC : Cx RX9 cX9_change 8 (some .long) p s m args meth c) (hR : 1 ≤ R.frames ∧ 25 ≤ R.locals) : ∀ (o0 a0 : Nat) (x1 : Int32) (x2 : Int32) (x5 : Int32) (D : dt) (H : Heap) (locs : List Loc) (ls : Array Slot), Is S ad o0 a0 8 → Wd G cA S D ad A s H locs → lv_has ls 8 [(0, .ref a0), (1, .int x1), (2, .int x2), (5, .int x5)] → f_X9_change_108 S o0 x1 x2 x5 D = some (r, D') → W p l e R s m args below meth c H locs 0 0 (MQ below (Qn (some (.long r)) True (wpost G cA S D' ad A) A) args s 0 0 A) (F0 m 108 ls []) := by
  obtain ⟨hx, hb, -⟩ := id hC
  intro o0 a0 x1 x2 x5 D H locs ls hi0 hw hl h
  unfold f_X9_change_108 at h
  refine lv_iload hx hb dX9_change_108 (lv_at hl 3 rfl) ?_
  refine lv_if_ge (tgt := 117) hx hb dX9_change_110 (by decide) (fun c115 => ?_) (fun c115 => ?_)
  · have h := i_yes c115 h
    refine lv_bipush (v := 32) hx hb dX9_change_117 (by decide) ?_
    refine lv_iload_n hx hb dX9_change_119 rfl (lv_at hl 1 rfl) ?_
    refine lv_imul hx hb dX9_change_120 ?_
    refine lv_iload hx hb dX9_change_121 (lv_at hl 3 rfl) ?_
    refine lv_iadd hx hb dX9_change_123 ?_
    refine lv_topi (fun y116 ey116 => ?_)
    have h := nm_i h y116 ey116
    refine lv_istore (lv' := [(6, .int y116), (0, .ref a0), (1, .int x1), (2, .int x2), (5, .int x5)]) hx hb dX9_change_124 hl (by decide) rfl (fun ls hl => ?_)
    refine lv_iload_n hx hb dX9_change_126 rfl (lv_at hl 3 rfl) ?_
    refine lv_if_ge (tgt := 178) hx hb dX9_change_127 (by decide) (fun c117 => ?_) (fun c117 => ?_)
    · have h := i_yes c117 h
      exact w_X9_change_178 hC hR o0 a0 x1 y116 _ _ _ _ hi0 hw (lv_sub hl [1, 2, 0] rfl) h
    · have h := i_no c117 h
      refine lv_aload_n hx hb dX9_change_130 rfl (lv_at hl 1 rfl) ?_
      obtain ⟨o118, ho121, h⟩ := rq_i h
      refine r_getR hC hw kc_8 hi0 15 rfl lk_1084 dX9_change_131 rfl ho121 (fun a119 hi120 => ?_)
      refine lv_iload hx hb dX9_change_134 (lv_at hl 0 rfl) ?_
      refine lv_iconst (v := 1) hx hb dX9_change_136 (by decide) ?_
      obtain ⟨hn122, h⟩ := ix_i h
      refine r_zas hC hw hi120 hn122 dX9_change_137 (fun D123 eD123 H locs hw => ?_)
      have h := nm_i h D123 eD123
      refine lv_iconst (v := 0) hx hb dX9_change_138 (by decide) ?_
      refine lv_topi (fun y124 ey124 => ?_)
      have h := nm_i h y124 ey124
      refine lv_istore (lv' := [(7, .int y124), (6, .int y116), (0, .ref a0), (1, .int x1), (2, .int x2), (5, .int x5)]) hx hb dX9_change_139 hl (by decide) rfl (fun ls hl => ?_)
      exact w_X9_change_141 hC hR LF o0 a0 x1 y116 y124 _ _ _ _ hi0 hw (lv_sub hl [2, 3, 1, 0] rfl) h
  · have h := i_no c115 h
    refine lv_ldc2 (v := (-1)) hx hb hC.2.2.2.1 (hC.2.2.2.2.1 _ lk_1362) dX9_change_113 ?_
    cases h
    exact r_lret hC hw dX9_change_116
set_option maxHeartbeats 4000000 in
set_option maxRecDepth 100000 in
theorem w_X9_change_100 {r : Int64} {D' : dt} (hC : Cx RX9 cX9_change 8 (some .long) p s m args meth c) (hR : 1 ≤ R.frames ∧ 25 ≤ R.locals) {k69 : Nat → Int32 → Int32 → Int32 → Int32 → dt → Option (Int64 × dt)} (hk69 : ∀ (o0 a0 : Nat) (x1 : Int32) (x2 : Int32) (x5 : Int32) (x6 : Int32) (D : dt) (H : Heap) (locs : List Loc) (ls : Array Slot), Is S ad o0 a0 8 → Wd G cA S D ad A s H locs → lv_has ls 8 [(0, .ref a0), (1, .int x1), (2, .int x2), (5, .int x5), (6, .int x6)] → k69 o0 x1 x2 x5 x6 D = some (r, D') → W p l e R s m args below meth c H locs 0 0 (MQ below (Qn (some (.long r)) True (wpost G cA S D' ad A) A) args s 0 0 A) (F0 m 69 ls [])) : ∀ (o0 a0 : Nat) (x1 : Int32) (x2 : Int32) (x6 : Int32) (xs0 : Int32) (D : dt) (H : Heap) (locs : List Loc) (ls : Array Slot), Is S ad o0 a0 8 → Wd G cA S D ad A s H locs → lv_has ls 8 [(0, .ref a0), (1, .int x1), (2, .int x2), (6, .int x6)] → f_X9_change_100 S k69 o0 x1 x2 x6 xs0 D = some (r, D') → W p l e R s m args below meth c H locs 0 0 (MQ below (Qn (some (.long r)) True (wpost G cA S D' ad A) A) args s 0 0 A) (F0 m 100 ls [.int xs0]) := by
  obtain ⟨hx, hb, -⟩ := id hC
  intro o0 a0 x1 x2 x6 xs0 D H locs ls hi0 hw hl h
  unfold f_X9_change_100 at h
  refine lv_istore (lv' := [(5, .int xs0), (0, .ref a0), (1, .int x1), (2, .int x2), (6, .int x6)]) hx hb dX9_change_100 hl (by decide) rfl (fun ls hl => ?_)
  obtain ⟨y125, ey125⟩ : ∃ z : Int32, z = x6 + (-1) := ⟨_, rfl⟩
  have h := nm_i h y125 ey125
  refine lv_iinc (v := y125) (lv' := [(6, .int y125), (5, .int xs0), (0, .ref a0), (1, .int x1), (2, .int x2)]) hx hb dX9_change_102 hl (k := 4) rfl (by rw [ey125]; rfl) (by decide) rfl (fun ls hl => ?_)
  refine lv_goto (tgt := 69) hx hb dX9_change_105 (by decide) ?_
  exact hk69 o0 a0 x1 x2 xs0 y125 _ _ _ _ hi0 hw (lv_sub hl [2, 3, 4, 1, 0] rfl) h
set_option maxHeartbeats 4000000 in
set_option maxRecDepth 100000 in
theorem w_X9_change_69 {r : Int64} {D' : dt} (hC : Cx RX9 cX9_change 8 (some .long) p s m args meth c) (hR : 1 ≤ R.frames ∧ 25 ≤ R.locals) : ∀ (n : Nat), ∀ (o0 a0 : Nat) (x1 : Int32) (x2 : Int32) (x5 : Int32) (x6 : Int32) (D : dt) (H : Heap) (locs : List Loc) (ls : Array Slot), Is S ad o0 a0 8 → Wd G cA S D ad A s H locs → lv_has ls 8 [(0, .ref a0), (1, .int x1), (2, .int x2), (5, .int x5), (6, .int x6)] → f_X9_change_69 S n o0 x1 x2 x5 x6 D = some (r, D') → W p l e R s m args below meth c H locs 0 0 (MQ below (Qn (some (.long r)) True (wpost G cA S D' ad A) A) args s 0 0 A) (F0 m 69 ls []) := by
  obtain ⟨hx, hb, -⟩ := id hC
  intro n
  induction n with
  | zero =>
    intro o0 a0 x1 x2 x5 x6 D H locs ls hi0 hw hl h
    rw [f_X9_change_69.eq_1] at h
    cases h
  | succ n ih =>
    intro o0 a0 x1 x2 x5 x6 D H locs ls hi0 hw hl h
    rw [f_X9_change_69.eq_2] at h
    refine lv_iload hx hb dX9_change_69 (lv_at hl 4 rfl) ?_
    refine lv_if_lt (tgt := 108) hx hb dX9_change_71 (by decide) (fun c126 => ?_) (fun c126 => ?_)
    · have h := i_yes c126 h
      exact w_X9_change_108 hC hR o0 a0 x1 x2 x5 _ _ _ _ hi0 hw (lv_sub hl [0, 1, 2, 3] rfl) h
    · have h := i_no c126 h
      refine lv_iload_n hx hb dX9_change_74 rfl (lv_at hl 2 rfl) ?_
      refine lv_if_ge (tgt := 108) hx hb dX9_change_75 (by decide) (fun c127 => ?_) (fun c127 => ?_)
      · have h := i_yes c127 h
        exact w_X9_change_108 hC hR o0 a0 x1 x2 x5 _ _ _ _ hi0 hw (lv_sub hl [0, 1, 2, 3] rfl) h
      · have h := i_no c127 h
        refine lv_aload_n hx hb dX9_change_78 rfl (lv_at hl 0 rfl) ?_
        obtain ⟨o128, ho131, h⟩ := rq_i h
        refine r_getR hC hw kc_8 hi0 15 rfl lk_1084 dX9_change_79 rfl ho131 (fun a129 hi130 => ?_)
        refine lv_bipush (v := 32) hx hb dX9_change_82 (by decide) ?_
        refine lv_iload_n hx hb dX9_change_84 rfl (lv_at hl 1 rfl) ?_
        refine lv_imul hx hb dX9_change_85 ?_
        refine lv_iload hx hb dX9_change_86 (lv_at hl 4 rfl) ?_
        refine lv_iadd hx hb dX9_change_88 ?_
        obtain ⟨hn132, h⟩ := ix_i h
        refine r_zald hC hw hi130 hn132 dX9_change_89 ?_
        refine lv_if_eq (tgt := 98) hx hb dX9_change_90 (by decide) (fun c133 => ?_) (fun c133 => ?_)
        · have h := i_yes c133 h
          refine lv_iload hx hb dX9_change_98 (lv_at hl 4 rfl) ?_
          exact w_X9_change_100 hC hR ih o0 a0 x1 x2 x6 x6 _ _ _ _ hi0 hw (lv_sub hl [0, 1, 2, 4] rfl) h
        · have h := i_no c133 h
          refine lv_iload hx hb dX9_change_93 (lv_at hl 3 rfl) ?_
          refine lv_goto (tgt := 100) hx hb dX9_change_95 (by decide) ?_
          exact w_X9_change_100 hC hR ih o0 a0 x1 x2 x6 x5 _ _ _ _ hi0 hw (lv_sub hl [0, 1, 2, 4] rfl) h
set_option maxHeartbeats 4000000 in
set_option maxRecDepth 100000 in
theorem w_X9_change_56 {r : Int64} {D' : dt} (hC : Cx RX9 cX9_change 8 (some .long) p s m args meth c) (hR : 1 ≤ R.frames ∧ 25 ≤ R.locals) : ∀ (o0 a0 : Nat) (x1 : Int32) (x2 : Int32) (D : dt) (H : Heap) (locs : List Loc) (ls : Array Slot), Is S ad o0 a0 8 → Wd G cA S D ad A s H locs → lv_has ls 8 [(0, .ref a0), (1, .int x1), (2, .int x2)] → f_X9_change_56 S o0 x1 x2 D = some (r, D') → W p l e R s m args below meth c H locs 0 0 (MQ below (Qn (some (.long r)) True (wpost G cA S D' ad A) A) args s 0 0 A) (F0 m 56 ls []) := by
  obtain ⟨hx, hb, -⟩ := id hC
  intro o0 a0 x1 x2 D H locs ls hi0 hw hl h
  unfold f_X9_change_56 at h
  refine lv_iload_n hx hb dX9_change_56 rfl (lv_at hl 2 rfl) ?_
  refine lv_istore (lv' := [(5, .int x2), (0, .ref a0), (1, .int x1), (2, .int x2)]) hx hb dX9_change_57 hl (by decide) rfl (fun ls hl => ?_)
  refine lv_aload_n hx hb dX9_change_59 rfl (lv_at hl 1 rfl) ?_
  obtain ⟨o134, ho137, h⟩ := rq_i h
  refine r_getR hC hw kc_8 hi0 13 rfl lk_1082 dX9_change_60 rfl ho137 (fun a135 hi136 => ?_)
  refine lv_iload_n hx hb dX9_change_63 rfl (lv_at hl 2 rfl) ?_
  obtain ⟨hn138, h⟩ := ix_i h
  refine r_iald hC hw hi136 hn138 dX9_change_64 ?_
  refine lv_iconst (v := 1) hx hb dX9_change_65 (by decide) ?_
  refine lv_isub hx hb dX9_change_66 ?_
  refine lv_topi (fun y139 ey139 => ?_)
  have h := nm_i h y139 ey139
  refine lv_istore (lv' := [(6, .int y139), (5, .int x2), (0, .ref a0), (1, .int x1), (2, .int x2)]) hx hb dX9_change_67 hl (by decide) rfl (fun ls hl => ?_)
  exact w_X9_change_69 hC hR LF o0 a0 x1 x2 x2 y139 _ _ _ _ hi0 hw (lv_sub hl [2, 3, 4, 1, 0] rfl) h
set_option maxHeartbeats 4000000 in
set_option maxRecDepth 100000 in
theorem w_X9_change_40 {r : Int64} {D' : dt} (hC : Cx RX9 cX9_change 8 (some .long) p s m args meth c) (hR : 1 ≤ R.frames ∧ 25 ≤ R.locals) : ∀ (o0 a0 : Nat) (x1 : Int32) (x2 : Int32) (x3 : Int64) (D : dt) (H : Heap) (locs : List Loc) (ls : Array Slot), Is S ad o0 a0 8 → Wd G cA S D ad A s H locs → lv_has ls 8 [(0, .ref a0), (1, .int x1), (2, .int x2), (3, .long x3)] → f_X9_change_40 S o0 x1 x2 x3 D = some (r, D') → W p l e R s m args below meth c H locs 0 0 (MQ below (Qn (some (.long r)) True (wpost G cA S D' ad A) A) args s 0 0 A) (F0 m 40 ls []) := by
  obtain ⟨hx, hb, -⟩ := id hC
  intro o0 a0 x1 x2 x3 D H locs ls hi0 hw hl h
  unfold f_X9_change_40 at h
  refine lv_lload_n hx hb dX9_change_40 rfl (lv_at hl 3 rfl) ?_
  refine lv_ldc2 (v := 2) hx hb hC.2.2.2.1 (hC.2.2.2.2.1 _ lk_1380) dX9_change_41 ?_
  refine W.lcmp hx hb dX9_change_44 ?_
  refine lv_if_ne (tgt := 56) hx hb dX9_change_45 (by decide) (fun c140 => ?_) (fun c140 => ?_)
  · have h := i_no c140 h
    exact w_X9_change_56 hC hR o0 a0 x1 x2 _ _ _ _ hi0 hw (lv_sub hl [0, 1, 2] rfl) h
  · have h := i_yes c140 h
    refine lv_iload_n hx hb dX9_change_48 rfl (lv_at hl 2 rfl) ?_
    refine lv_if_ge (tgt := 56) hx hb dX9_change_49 (by decide) (fun c141 => ?_) (fun c141 => ?_)
    · have h := i_yes c141 h
      exact w_X9_change_56 hC hR o0 a0 x1 x2 _ _ _ _ hi0 hw (lv_sub hl [0, 1, 2] rfl) h
    · have h := i_no c141 h
      exact w_X9_change_52 hC hR _ _ _ _ hw (lv_sub hl [] rfl) h
set_option maxHeartbeats 4000000 in
set_option maxRecDepth 100000 in
theorem w_X9_change_30 {r : Int64} {D' : dt} (hC : Cx RX9 cX9_change 8 (some .long) p s m args meth c) (hR : 1 ≤ R.frames ∧ 25 ≤ R.locals) : ∀ (o0 a0 : Nat) (x1 : Int32) (x2 : Int32) (x3 : Int64) (D : dt) (H : Heap) (locs : List Loc) (ls : Array Slot), Is S ad o0 a0 8 → Wd G cA S D ad A s H locs → lv_has ls 8 [(0, .ref a0), (1, .int x1), (2, .int x2), (3, .long x3)] → f_X9_change_30 S o0 x1 x2 x3 D = some (r, D') → W p l e R s m args below meth c H locs 0 0 (MQ below (Qn (some (.long r)) True (wpost G cA S D' ad A) A) args s 0 0 A) (F0 m 30 ls []) := by
  obtain ⟨hx, hb, -⟩ := id hC
  intro o0 a0 x1 x2 x3 D H locs ls hi0 hw hl h
  unfold f_X9_change_30 at h
  refine lv_lload_n hx hb dX9_change_30 rfl (lv_at hl 3 rfl) ?_
  refine lv_lconst (v := 1) hx hb dX9_change_31 (by decide) ?_
  refine W.lcmp hx hb dX9_change_32 ?_
  refine lv_if_ne (tgt := 40) hx hb dX9_change_33 (by decide) (fun c142 => ?_) (fun c142 => ?_)
  · have h := i_no c142 h
    exact w_X9_change_40 hC hR o0 a0 x1 x2 x3 _ _ _ _ hi0 hw (lv_sub hl [0, 1, 2, 3] rfl) h
  · have h := i_yes c142 h
    refine lv_iload_n hx hb dX9_change_36 rfl (lv_at hl 2 rfl) ?_
    refine lv_if_ge (tgt := 52) hx hb dX9_change_37 (by decide) (fun c143 => ?_) (fun c143 => ?_)
    · have h := i_yes c143 h
      exact w_X9_change_52 hC hR _ _ _ _ hw (lv_sub hl [] rfl) h
    · have h := i_no c143 h
      exact w_X9_change_40 hC hR o0 a0 x1 x2 x3 _ _ _ _ hi0 hw (lv_sub hl [0, 1, 2, 3] rfl) h
set_option maxHeartbeats 4000000 in
set_option maxRecDepth 100000 in
theorem w_X9_change_0 {r : Int64} {D' : dt} (hC : Cx RX9 cX9_change 8 (some .long) p s m args meth c) (hR : 1 ≤ R.frames ∧ 25 ≤ R.locals) : ∀ (o0 a0 : Nat) (x1 : Int32) (x2 : Int32) (x3 : Int64) (D : dt) (H : Heap) (locs : List Loc) (ls : Array Slot), Is S ad o0 a0 8 → Wd G cA S D ad A s H locs → lv_has ls 8 [(0, .ref a0), (1, .int x1), (2, .int x2), (3, .long x3)] → f_X9_change S o0 x1 x2 x3 D = some (r, D') → W p l e R s m args below meth c H locs 0 0 (MQ below (Qn (some (.long r)) True (wpost G cA S D' ad A) A) args s 0 0 A) (F0 m 0 ls []) := by
  obtain ⟨hx, hb, -⟩ := id hC
  intro o0 a0 x1 x2 x3 D H locs ls hi0 hw hl h
  unfold f_X9_change at h
  refine lv_lload_n hx hb dX9_change_0 rfl (lv_at hl 3 rfl) ?_
  refine lv_lconst (v := 0) hx hb dX9_change_1 (by decide) ?_
  refine lv_ldc2 (v := 2) hx hb hC.2.2.2.1 (hC.2.2.2.2.1 _ lk_1380) dX9_change_2 ?_
  obtain ⟨r145, hq144, h⟩ := pq_i h
  refine r_cS (st' := [.int r145]) [.long x3, .long (0 : Int64), .long (2 : Int64)] [] hC hw (k_X9_in _ hq144) mk_X9_in lk_1240 ⟨Nat.le_trans (by decide) hR.1, Nat.le_trans (by decide) hR.2⟩ ⟨Nat.zero_le _, Nat.zero_le _⟩ rfl hl.1 rfl rfl (Nat.le_of_ble_eq_true rfl) dX9_change_5 (fun hP H locs hw => ?_)
  refine lv_if_eq (tgt := 52) hx hb dX9_change_8 (by decide) (fun c146 => ?_) (fun c146 => ?_)
  · have h := i_yes c146 h
    exact w_X9_change_52 hC hR _ _ _ _ hw (lv_sub hl [] rfl) h
  · have h := i_no c146 h
    refine lv_aload_n hx hb dX9_change_11 rfl (lv_at hl 0 rfl) ?_
    obtain ⟨o147, ho150, h⟩ := rq_i h
    refine r_getR hC hw kc_8 hi0 10 rfl lk_1079 dX9_change_12 rfl ho150 (fun a148 hi149 => ?_)
    refine lv_iload_n hx hb dX9_change_15 rfl (lv_at hl 1 rfl) ?_
    obtain ⟨hn151, h⟩ := ix_i h
    refine r_iald hC hw hi149 hn151 dX9_change_16 ?_
    refine lv_if_ne (tgt := 30) hx hb dX9_change_17 (by decide) (fun c152 => ?_) (fun c152 => ?_)
    · have h := i_no c152 h
      exact w_X9_change_30 hC hR o0 a0 x1 x2 x3 _ _ _ _ hi0 hw (lv_sub hl [0, 1, 2, 3] rfl) h
    · have h := i_yes c152 h
      refine lv_lload_n hx hb dX9_change_20 rfl (lv_at hl 3 rfl) ?_
      refine lv_lconst (v := 1) hx hb dX9_change_21 (by decide) ?_
      refine W.lcmp hx hb dX9_change_22 ?_
      refine lv_if_eq (tgt := 52) hx hb dX9_change_23 (by decide) (fun c153 => ?_) (fun c153 => ?_)
      · have h := i_yes c153 h
        exact w_X9_change_52 hC hR _ _ _ _ hw (lv_sub hl [] rfl) h
      · have h := i_no c153 h
        refine lv_iload_n hx hb dX9_change_26 rfl (lv_at hl 2 rfl) ?_
        refine lv_if_lt (tgt := 52) hx hb dX9_change_27 (by decide) (fun c154 => ?_) (fun c154 => ?_)
        · have h := i_yes c154 h
          exact w_X9_change_52 hC hR _ _ _ _ hw (lv_sub hl [] rfl) h
        · have h := i_no c154 h
          exact w_X9_change_30 hC hR o0 a0 x1 x2 x3 _ _ _ _ hi0 hw (lv_sub hl [0, 1, 2, 3] rfl) h
set_option maxHeartbeats 4000000 in
set_option maxRecDepth 100000 in
theorem k_X9_change {l : Launch} {G : va_G} {cA : Nat → ClassId} {S : sh} {D D' : dt} {ad : Nat → Nat} (sz : Nat) {o0 a0 : Nat} {x1 : Int32} {x2 : Int32} {x3 : Int64} {r : Int64} (hi0 : Is S ad o0 a0 8) (h : f_X9_change S o0 x1 x2 x3 D = some (r, D')) : Co l yX9_change (Cond.code yX9_change cX9_change 8 (some .long) :: tb0) 1 25 [.ref a0, .int x1, .int x2, .long x3] G cA S D ad sz (some (.long r)) True D' := by
  refine Met.ofW (cc := cX9_change) (maxL := 8) (ret := (some .long)) (by decide) rfl ?_
  intro p e s m args below meth c s₁ B hml hv
  obtain ⟨rfl, hsz, hP, hK, hD0, hT, hX⟩ := hv
  subst hsz
  have hts := atoms_spec (ws := Cond.code yX9_change cX9_change 8 (some .long) :: tb0) B.pre
  have hC : Cx RX9 cX9_change 8 (some .long) p s m _ meth c := ⟨B.exec, B.bytes, hml, findClass_of_methodNamed B.named, fun w q => hts w (List.mem_cons_of_mem _ q), B.returns, B.notSynchronized⟩
  have hw := Wd.entry hP hK hD0 hT hX
  have hl := lv_entry ([.ref a0, .int x1, .int x2, .long x3]) (n := 8) (Nat.le_of_ble_eq_true rfl)
  rw [lg_entry_eq]
  exact w_X9_change_0 hC ⟨Nat.le_refl _, Nat.le_refl _⟩ o0 a0 x1 x2 x3 D _ _ _ hi0 hw hl h
set_option maxHeartbeats 4000000 in
set_option maxRecDepth 100000 in
theorem w_X9_call_357 {r : Int32} {D' : dt} (hC : Cx RX9 cX9_call 7 (some .boolean) p s m args meth c) (hR : 3 ≤ R.frames ∧ 69 ≤ R.locals) : ∀ (n : Nat), ∀ (o0 a0 : Nat) (x4 : Int32) (D : dt) (H : Heap) (locs : List Loc) (ls : Array Slot), Is S ad o0 a0 8 → Wd G cA S D ad A s H locs → lv_has ls 7 [(0, .ref a0), (4, .int x4)] → f_X9_call_357 S n o0 x4 D = some (r, D') → W p l e R s m args below meth c H locs 0 0 (MQ below (Qn (some (.int r)) True (wpost G cA S D' ad A) A) args s 0 0 A) (F0 m 357 ls []) := by
  obtain ⟨hx, hb, -⟩ := id hC
  intro n
  induction n with
  | zero =>
    intro o0 a0 x4 D H locs ls hi0 hw hl h
    rw [f_X9_call_357.eq_1] at h
    cases h
  | succ n ih =>
    intro o0 a0 x4 D H locs ls hi0 hw hl h
    rw [f_X9_call_357.eq_2] at h
    refine lv_iload hx hb dX9_call_357 (lv_at hl 1 rfl) ?_
    refine lv_bipush (v := 6) hx hb dX9_call_359 (by decide) ?_
    refine lv_icmp_ge (tgt := 378) hx hb dX9_call_361 (by decide) (fun c149 => ?_) (fun c149 => ?_)
    · have h := i_yes c149 h
      refine lv_iconst (v := 1) hx hb dX9_call_378 (by decide) ?_
      cases h
      exact r_zret hC hw (Or.inr rfl) dX9_call_379
    · have h := i_no c149 h
      refine lv_aload_n hx hb dX9_call_364 rfl (lv_at hl 0 rfl) ?_
      obtain ⟨o150, ho153, h⟩ := rq_i h
      refine r_getR hC hw kc_8 hi0 21 rfl lk_1090 dX9_call_365 rfl ho153 (fun a151 hi152 => ?_)
      refine lv_iload hx hb dX9_call_368 (lv_at hl 1 rfl) ?_
      refine lv_lconst (v := 0) hx hb dX9_call_370 (by decide) ?_
      obtain ⟨hn154, h⟩ := ix_i h
      refine r_las hC hw hi152 hn154 dX9_call_371 (fun D155 eD155 H locs hw => ?_)
      have h := nm_i h D155 eD155
      obtain ⟨y156, ey156⟩ : ∃ z : Int32, z = x4 + 1 := ⟨_, rfl⟩
      have h := nm_i h y156 ey156
      refine lv_iinc (v := y156) (lv' := [(4, .int y156), (0, .ref a0)]) hx hb dX9_call_372 hl (k := 1) rfl (by rw [ey156]; rfl) (by decide) rfl (fun ls hl => ?_)
      refine lv_goto (tgt := 357) hx hb dX9_call_375 (by decide) ?_
      exact ih o0 a0 y156 _ _ _ _ hi0 hw (lv_sub hl [1, 0] rfl) h
set_option maxHeartbeats 4000000 in
set_option maxRecDepth 100000 in
theorem w_X9_call_347 {r : Int32} {D' : dt} (hC : Cx RX9 cX9_call 7 (some .boolean) p s m args meth c) (hR : 3 ≤ R.frames ∧ 69 ≤ R.locals) : ∀ (o0 a0 : Nat) (x2 : Int64) (D : dt) (H : Heap) (locs : List Loc) (ls : Array Slot), Is S ad o0 a0 8 → Wd G cA S D ad A s H locs → lv_has ls 7 [(0, .ref a0), (2, .long x2)] → f_X9_call_347 S o0 x2 D = some (r, D') → W p l e R s m args below meth c H locs 0 0 (MQ below (Qn (some (.int r)) True (wpost G cA S D' ad A) A) args s 0 0 A) (F0 m 347 ls []) := by
  obtain ⟨hx, hb, -⟩ := id hC
  intro o0 a0 x2 D H locs ls hi0 hw hl h
  unfold f_X9_call_347 at h
  refine lv_aload_n hx hb dX9_call_347 rfl (lv_at hl 0 rfl) ?_
  obtain ⟨o157, ho160, h⟩ := rq_i h
  refine r_getR hC hw kc_8 hi0 21 rfl lk_1090 dX9_call_348 rfl ho160 (fun a158 hi159 => ?_)
  refine lv_iconst (v := 0) hx hb dX9_call_351 (by decide) ?_
  refine lv_lload_n hx hb dX9_call_352 rfl (lv_at hl 1 rfl) ?_
  obtain ⟨hn161, h⟩ := ix_i h
  refine r_las hC hw hi159 hn161 dX9_call_353 (fun D162 eD162 H locs hw => ?_)
  have h := nm_i h D162 eD162
  refine lv_iconst (v := 1) hx hb dX9_call_354 (by decide) ?_
  refine lv_topi (fun y163 ey163 => ?_)
  have h := nm_i h y163 ey163
  refine lv_istore (lv' := [(4, .int y163), (0, .ref a0), (2, .long x2)]) hx hb dX9_call_355 hl (by decide) rfl (fun ls hl => ?_)
  exact w_X9_call_357 hC hR LF o0 a0 y163 _ _ _ _ hi0 hw (lv_sub hl [1, 0] rfl) h
set_option maxHeartbeats 4000000 in
set_option maxRecDepth 100000 in
theorem w_X9_call_346 {r : Int32} {D' : dt} (hC : Cx RX9 cX9_call 7 (some .boolean) p s m args meth c) (hR : 3 ≤ R.frames ∧ 69 ≤ R.locals) : ∀ (o0 a0 : Nat) (xs0 : Int64) (D : dt) (H : Heap) (locs : List Loc) (ls : Array Slot), Is S ad o0 a0 8 → Wd G cA S D ad A s H locs → lv_has ls 7 [(0, .ref a0)] → f_X9_call_346 S o0 xs0 D = some (r, D') → W p l e R s m args below meth c H locs 0 0 (MQ below (Qn (some (.int r)) True (wpost G cA S D' ad A) A) args s 0 0 A) (F0 m 346 ls [.long xs0]) := by
  obtain ⟨hx, hb, -⟩ := id hC
  intro o0 a0 xs0 D H locs ls hi0 hw hl h
  unfold f_X9_call_346 at h
  refine lv_lstore_n (lv' := [(2, .long xs0), (0, .ref a0)]) hx hb dX9_call_346 rfl hl (by decide) rfl (fun ls hl => ?_)
  exact w_X9_call_347 hC hR o0 a0 xs0 _ _ _ _ hi0 hw (lv_sub hl [1, 0] rfl) h
set_option maxHeartbeats 4000000 in
set_option maxRecDepth 100000 in
theorem w_X9_call_334 {r : Int32} {D' : dt} (hC : Cx RX9 cX9_call 7 (some .boolean) p s m args meth c) (hR : 3 ≤ R.frames ∧ 69 ≤ R.locals) : ∀ (o0 a0 : Nat) (x6 : Int32) (D : dt) (H : Heap) (locs : List Loc) (ls : Array Slot), Is S ad o0 a0 8 → Wd G cA S D ad A s H locs → lv_has ls 7 [(0, .ref a0), (6, .int x6)] → f_X9_call_334 S o0 x6 D = some (r, D') → W p l e R s m args below meth c H locs 0 0 (MQ below (Qn (some (.int r)) True (wpost G cA S D' ad A) A) args s 0 0 A) (F0 m 334 ls []) := by
  obtain ⟨hx, hb, -⟩ := id hC
  intro o0 a0 x6 D H locs ls hi0 hw hl h
  unfold f_X9_call_334 at h
  refine lv_iload hx hb dX9_call_334 (lv_at hl 1 rfl) ?_
  refine lv_if_eq (tgt := 343) hx hb dX9_call_336 (by decide) (fun c164 => ?_) (fun c164 => ?_)
  · have h := i_yes c164 h
    refine lv_ldc2 (v := (-1)) hx hb hC.2.2.2.1 (hC.2.2.2.2.1 _ lk_1362) dX9_call_343 ?_
    exact w_X9_call_346 hC hR o0 a0 (-1 : Int64) _ _ _ _ hi0 hw (lv_sub hl [0] rfl) h
  · have h := i_no c164 h
    refine lv_lconst (v := 0) hx hb dX9_call_339 (by decide) ?_
    refine lv_goto (tgt := 346) hx hb dX9_call_340 (by decide) ?_
    exact w_X9_call_346 hC hR o0 a0 (0 : Int64) _ _ _ _ hi0 hw (lv_sub hl [0] rfl) h
set_option maxHeartbeats 4000000 in
set_option maxRecDepth 100000 in
theorem w_X9_call_313 {r : Int32} {D' : dt} (hC : Cx RX9 cX9_call 7 (some .boolean) p s m args meth c) (hR : 3 ≤ R.frames ∧ 69 ≤ R.locals) : ∀ (o0 a0 : Nat) (x4 : Int32) (x5 : Int32) (xs0 : Int32) (D : dt) (H : Heap) (locs : List Loc) (ls : Array Slot), Is S ad o0 a0 8 → Wd G cA S D ad A s H locs → lv_has ls 7 [(0, .ref a0), (4, .int x4), (5, .int x5)] → f_X9_call_313 S o0 x4 x5 xs0 D = some (r, D') → W p l e R s m args below meth c H locs 0 0 (MQ below (Qn (some (.int r)) True (wpost G cA S D' ad A) A) args s 0 0 A) (F0 m 313 ls [.int xs0]) := by
  obtain ⟨hx, hb, -⟩ := id hC
  intro o0 a0 x4 x5 xs0 D H locs ls hi0 hw hl h
  unfold f_X9_call_313 at h
  refine lv_istore (lv' := [(6, .int xs0), (0, .ref a0), (4, .int x4), (5, .int x5)]) hx hb dX9_call_313 hl (by decide) rfl (fun ls hl => ?_)
  refine lv_iload hx hb dX9_call_315 (lv_at hl 0 rfl) ?_
  refine lv_if_eq (tgt := 334) hx hb dX9_call_317 (by decide) (fun c165 => ?_) (fun c165 => ?_)
  · have h := i_yes c165 h
    exact w_X9_call_334 hC hR o0 a0 xs0 _ _ _ _ hi0 hw (lv_sub hl [1, 0] rfl) h
  · have h := i_no c165 h
    refine lv_aload_n hx hb dX9_call_320 rfl (lv_at hl 1 rfl) ?_
    obtain ⟨o166, ho169, h⟩ := rq_i h
    refine r_getR hC hw kc_8 hi0 15 rfl lk_1084 dX9_call_321 rfl ho169 (fun a167 hi168 => ?_)
    refine lv_bipush (v := 32) hx hb dX9_call_324 (by decide) ?_
    refine lv_iload hx hb dX9_call_326 (lv_at hl 2 rfl) ?_
    refine lv_imul hx hb dX9_call_328 ?_
    refine lv_iload hx hb dX9_call_329 (lv_at hl 3 rfl) ?_
    refine lv_iadd hx hb dX9_call_331 ?_
    refine lv_iconst (v := 0) hx hb dX9_call_332 (by decide) ?_
    obtain ⟨hn170, h⟩ := ix_i h
    refine r_zas hC hw hi168 hn170 dX9_call_333 (fun D171 eD171 H locs hw => ?_)
    have h := nm_i h D171 eD171
    exact w_X9_call_334 hC hR o0 a0 xs0 _ _ _ _ hi0 hw (lv_sub hl [1, 0] rfl) h
set_option maxHeartbeats 4000000 in
set_option maxRecDepth 100000 in
theorem w_X9_call_312 {r : Int32} {D' : dt} (hC : Cx RX9 cX9_call 7 (some .boolean) p s m args meth c) (hR : 3 ≤ R.frames ∧ 69 ≤ R.locals) : ∀ (o0 a0 : Nat) (x4 : Int32) (x5 : Int32) (D : dt) (H : Heap) (locs : List Loc) (ls : Array Slot), Is S ad o0 a0 8 → Wd G cA S D ad A s H locs → lv_has ls 7 [(0, .ref a0), (4, .int x4), (5, .int x5)] → f_X9_call_312 S o0 x4 x5 D = some (r, D') → W p l e R s m args below meth c H locs 0 0 (MQ below (Qn (some (.int r)) True (wpost G cA S D' ad A) A) args s 0 0 A) (F0 m 312 ls []) := by
  obtain ⟨hx, hb, -⟩ := id hC
  intro o0 a0 x4 x5 D H locs ls hi0 hw hl h
  unfold f_X9_call_312 at h
  refine lv_iconst (v := 0) hx hb dX9_call_312 (by decide) ?_
  exact w_X9_call_313 hC hR o0 a0 x4 x5 (0 : Int32) _ _ _ _ hi0 hw (lv_sub hl [0, 1, 2] rfl) h
set_option maxHeartbeats 4000000 in
set_option maxRecDepth 100000 in
theorem w_X9_call_265 {r : Int32} {D' : dt} (hC : Cx RX9 cX9_call 7 (some .boolean) p s m args meth c) (hR : 3 ≤ R.frames ∧ 69 ≤ R.locals) : ∀ (o0 a0 : Nat) (xs0 : Int64) (D : dt) (H : Heap) (locs : List Loc) (ls : Array Slot), Is S ad o0 a0 8 → Wd G cA S D ad A s H locs → lv_has ls 7 [(0, .ref a0)] → f_X9_call_265 S o0 xs0 D = some (r, D') → W p l e R s m args below meth c H locs 0 0 (MQ below (Qn (some (.int r)) True (wpost G cA S D' ad A) A) args s 0 0 A) (F0 m 265 ls [.long xs0]) := by
  obtain ⟨hx, hb, -⟩ := id hC
  intro o0 a0 xs0 D H locs ls hi0 hw hl h
  unfold f_X9_call_265 at h
  refine lv_lstore_n (lv' := [(2, .long xs0), (0, .ref a0)]) hx hb dX9_call_265 rfl hl (by decide) rfl (fun ls hl => ?_)
  refine lv_goto (tgt := 347) hx hb dX9_call_266 (by decide) ?_
  exact w_X9_call_347 hC hR o0 a0 xs0 _ _ _ _ hi0 hw (lv_sub hl [1, 0] rfl) h
set_option maxHeartbeats 4000000 in
set_option maxRecDepth 100000 in
theorem w_X9_call_226 {r : Int32} {D' : dt} (hC : Cx RX9 cX9_call 7 (some .boolean) p s m args meth c) (hR : 3 ≤ R.frames ∧ 69 ≤ R.locals) : ∀ (o0 a0 : Nat) (x1 : Int32) (x4 : Int32) (D : dt) (H : Heap) (locs : List Loc) (ls : Array Slot), Is S ad o0 a0 8 → Wd G cA S D ad A s H locs → lv_has ls 7 [(0, .ref a0), (1, .int x1), (4, .int x4)] → f_X9_call_226 S o0 x1 x4 D = some (r, D') → W p l e R s m args below meth c H locs 0 0 (MQ below (Qn (some (.int r)) True (wpost G cA S D' ad A) A) args s 0 0 A) (F0 m 226 ls []) := by
  obtain ⟨hx, hb, -⟩ := id hC
  intro o0 a0 x1 x4 D H locs ls hi0 hw hl h
  unfold f_X9_call_226 at h
  refine lv_aload_n hx hb dX9_call_226 rfl (lv_at hl 0 rfl) ?_
  refine lv_iload hx hb dX9_call_227 (lv_at hl 2 rfl) ?_
  obtain ⟨r173, D174, hq172, h⟩ := cq_i h
  refine r_cV (st' := [.int r173]) [.int x4] [] hC hw kc_8 hi0 (k_X9_find _ hi0 hq172) mk_X9_find lk_1372 ⟨Nat.le_trans (by decide) hR.1, Nat.le_trans (by decide) hR.2⟩ ⟨Nat.zero_le _, Nat.zero_le _⟩ rfl hl.1 rfl rfl (Nat.le_of_ble_eq_true rfl) dX9_call_229 (fun hP H locs hw => ?_)
  refine lv_istore (lv' := [(5, .int r173), (0, .ref a0), (1, .int x1), (4, .int x4)]) hx hb dX9_call_232 hl (by decide) rfl (fun ls hl => ?_)
  refine lv_iload_n hx hb dX9_call_234 rfl (lv_at hl 2 rfl) ?_
  refine lv_iconst (v := 1) hx hb dX9_call_235 (by decide) ?_
  refine lv_icmp_ne (tgt := 269) hx hb dX9_call_236 (by decide) (fun c175 => ?_) (fun c175 => ?_)
  · have h := i_no c175 h
    refine lv_iload_n hx hb dX9_call_269 rfl (lv_at hl 2 rfl) ?_
    refine lv_iconst (v := 2) hx hb dX9_call_270 (by decide) ?_
    refine lv_icmp_ne (tgt := 292) hx hb dX9_call_271 (by decide) (fun c176 => ?_) (fun c176 => ?_)
    · have h := i_no c176 h
      refine lv_aload_n hx hb dX9_call_292 rfl (lv_at hl 1 rfl) ?_
      obtain ⟨o177, ho180, h⟩ := rq_i h
      refine r_getR hC hw kc_8 hi0 10 rfl lk_1079 dX9_call_293 rfl ho180 (fun a178 hi179 => ?_)
      refine lv_iload hx hb dX9_call_296 (lv_at hl 3 rfl) ?_
      obtain ⟨hn181, h⟩ := ix_i h
      refine r_iald hC hw hi179 hn181 dX9_call_298 ?_
      refine lv_iconst (v := 1) hx hb dX9_call_299 (by decide) ?_
      refine lv_icmp_ne (tgt := 312) hx hb dX9_call_300 (by decide) (fun c182 => ?_) (fun c182 => ?_)
      · have h := i_no c182 h
        exact w_X9_call_312 hC hR o0 a0 x4 r173 _ _ _ _ hi0 hw (lv_sub hl [1, 3, 0] rfl) h
      · have h := i_yes c182 h
        refine lv_iload hx hb dX9_call_303 (lv_at hl 0 rfl) ?_
        refine lv_if_lt (tgt := 312) hx hb dX9_call_305 (by decide) (fun c183 => ?_) (fun c183 => ?_)
        · have h := i_yes c183 h
          exact w_X9_call_312 hC hR o0 a0 x4 r173 _ _ _ _ hi0 hw (lv_sub hl [1, 3, 0] rfl) h
        · have h := i_no c183 h
          refine lv_iconst (v := 1) hx hb dX9_call_308 (by decide) ?_
          refine lv_goto (tgt := 313) hx hb dX9_call_309 (by decide) ?_
          exact w_X9_call_313 hC hR o0 a0 x4 r173 (1 : Int32) _ _ _ _ hi0 hw (lv_sub hl [1, 3, 0] rfl) h
    · have h := i_yes c176 h
      refine lv_aload_n hx hb dX9_call_274 rfl (lv_at hl 1 rfl) ?_
      refine lv_iload hx hb dX9_call_275 (lv_at hl 3 rfl) ?_
      refine lv_iload hx hb dX9_call_277 (lv_at hl 0 rfl) ?_
      refine lv_aload_n hx hb dX9_call_279 rfl (lv_at hl 1 rfl) ?_
      obtain ⟨o184, ho187, h⟩ := rq_i h
      refine r_getR hC hw kc_8 hi0 21 rfl lk_1090 dX9_call_280 rfl ho187 (fun a185 hi186 => ?_)
      refine lv_iconst (v := 4) hx hb dX9_call_283 (by decide) ?_
      obtain ⟨hn188, h⟩ := ix_i h
      refine r_lald hC hw hi186 hn188 dX9_call_284 ?_
      obtain ⟨r190, D191, hq189, h⟩ := cq_i h
      refine r_cV (st' := [.long r190]) [.int x4, .int r173, .long (gL D174 o184 (4 : Int32).toNatClampNeg)] [] hC hw kc_8 hi0 (k_X9_change _ hi0 hq189) mk_X9_change lk_1376 ⟨Nat.le_trans (by decide) hR.1, Nat.le_trans (by decide) hR.2⟩ ⟨Nat.zero_le _, Nat.zero_le _⟩ rfl hl.1 rfl rfl (Nat.le_of_ble_eq_true rfl) dX9_call_285 (fun hP H locs hw => ?_)
      refine lv_lstore_n (lv' := [(2, .long r190), (5, .int r173), (0, .ref a0), (1, .int x1), (4, .int x4)]) hx hb dX9_call_288 rfl hl (by decide) rfl (fun ls hl => ?_)
      refine lv_goto (tgt := 347) hx hb dX9_call_289 (by decide) ?_
      exact w_X9_call_347 hC hR o0 a0 r190 _ _ _ _ hi0 hw (lv_sub hl [2, 0] rfl) h
  · have h := i_yes c175 h
    refine lv_iload hx hb dX9_call_239 (lv_at hl 0 rfl) ?_
    refine lv_if_ge (tgt := 248) hx hb dX9_call_241 (by decide) (fun c192 => ?_) (fun c192 => ?_)
    · have h := i_yes c192 h
      refine lv_ldc2 (v := 34359738368) hx hb hC.2.2.2.1 (hC.2.2.2.2.1 _ lk_1273) dX9_call_248 ?_
      refine lv_iload hx hb dX9_call_251 (lv_at hl 3 rfl) ?_
      refine lv_i2l (v := x4.toInt64) hx hb dX9_call_253 rfl ?_
      refine lv_bipush (v := 24) hx hb dX9_call_254 (by decide) ?_
      refine lv_lshl (v := j_lshl x4.toInt64 (24 : Int32)) hx hb dX9_call_256 rfl ?_
      refine lv_ladd hx hb dX9_call_257 ?_
      refine lv_iload hx hb dX9_call_258 (lv_at hl 0 rfl) ?_
      refine lv_i2l (v := r173.toInt64) hx hb dX9_call_260 rfl ?_
      refine lv_bipush (v := 12) hx hb dX9_call_261 (by decide) ?_
      refine lv_lshl (v := j_lshl r173.toInt64 (12 : Int32)) hx hb dX9_call_263 rfl ?_
      refine lv_ladd hx hb dX9_call_264 ?_
      exact w_X9_call_265 hC hR o0 a0 (((34359738368 : Int64) + (j_lshl x4.toInt64 (24 : Int32))) + (j_lshl r173.toInt64 (12 : Int32))) _ _ _ _ hi0 hw (lv_sub hl [1] rfl) h
    · have h := i_no c192 h
      refine lv_lconst (v := 0) hx hb dX9_call_244 (by decide) ?_
      refine lv_goto (tgt := 265) hx hb dX9_call_245 (by decide) ?_
      exact w_X9_call_265 hC hR o0 a0 (0 : Int64) _ _ _ _ hi0 hw (lv_sub hl [1] rfl) h
set_option maxHeartbeats 4000000 in
set_option maxRecDepth 100000 in
theorem w_X9_call_182 {r : Int32} {D' : dt} (hC : Cx RX9 cX9_call 7 (some .boolean) p s m args meth c) (hR : 3 ≤ R.frames ∧ 69 ≤ R.locals) : ∀ (n : Nat), ∀ (o0 a0 : Nat) (x1 : Int32) (x4 : Int32) (x5 : Int32) (D : dt) (H : Heap) (locs : List Loc) (ls : Array Slot), Is S ad o0 a0 8 → Wd G cA S D ad A s H locs → lv_has ls 7 [(0, .ref a0), (1, .int x1), (4, .int x4), (5, .int x5)] → f_X9_call_182 S n o0 x1 x4 x5 D = some (r, D') → W p l e R s m args below meth c H locs 0 0 (MQ below (Qn (some (.int r)) True (wpost G cA S D' ad A) A) args s 0 0 A) (F0 m 182 ls []) := by
  obtain ⟨hx, hb, -⟩ := id hC
  intro n
  induction n with
  | zero =>
    intro o0 a0 x1 x4 x5 D H locs ls hi0 hw hl h
    rw [f_X9_call_182.eq_1] at h
    cases h
  | succ n ih =>
    intro o0 a0 x1 x4 x5 D H locs ls hi0 hw hl h
    rw [f_X9_call_182.eq_2] at h
    refine lv_iload hx hb dX9_call_182 (lv_at hl 3 rfl) ?_
    refine lv_aload_n hx hb dX9_call_184 rfl (lv_at hl 0 rfl) ?_
    obtain ⟨o193, ho196, h⟩ := rq_i h
    refine r_getR hC hw kc_8 hi0 12 rfl lk_1081 dX9_call_185 rfl ho196 (fun a194 hi195 => ?_)
    refine lv_iload hx hb dX9_call_188 (lv_at hl 2 rfl) ?_
    obtain ⟨hn197, h⟩ := ix_i h
    refine r_iald hC hw hi195 hn197 dX9_call_190 ?_
    refine lv_icmp_ge (tgt := 226) hx hb dX9_call_191 (by decide) (fun c198 => ?_) (fun c198 => ?_)
    · have h := i_yes c198 h
      exact w_X9_call_226 hC hR o0 a0 x1 x4 _ _ _ _ hi0 hw (lv_sub hl [0, 1, 2] rfl) h
    · have h := i_no c198 h
      refine lv_iload_n hx hb dX9_call_194 rfl (lv_at hl 1 rfl) ?_
      refine lv_iconst (v := 2) hx hb dX9_call_195 (by decide) ?_
      refine lv_icmp_ne (tgt := 226) hx hb dX9_call_196 (by decide) (fun c199 => ?_) (fun c199 => ?_)
      · have h := i_no c199 h
        exact w_X9_call_226 hC hR o0 a0 x1 x4 _ _ _ _ hi0 hw (lv_sub hl [0, 1, 2] rfl) h
      · have h := i_yes c199 h
        refine lv_aload_n hx hb dX9_call_199 rfl (lv_at hl 0 rfl) ?_
        obtain ⟨o200, ho203, h⟩ := rq_i h
        refine r_getR hC hw kc_8 hi0 24 rfl lk_1093 dX9_call_200 rfl ho203 (fun a201 hi202 => ?_)
        refine lv_iload hx hb dX9_call_203 (lv_at hl 3 rfl) ?_
        refine lv_aload_n hx hb dX9_call_205 rfl (lv_at hl 0 rfl) ?_
        refine lv_aload_n hx hb dX9_call_206 rfl (lv_at hl 0 rfl) ?_
        obtain ⟨o204, ho207, h⟩ := rq_i h
        refine r_getR hC hw kc_8 hi0 21 rfl lk_1090 dX9_call_207 rfl ho207 (fun a205 hi206 => ?_)
        refine lv_iconst (v := 3) hx hb dX9_call_210 (by decide) ?_
        obtain ⟨hn208, h⟩ := ix_i h
        refine r_lald hC hw hi206 hn208 dX9_call_211 ?_
        refine lv_iload hx hb dX9_call_212 (lv_at hl 3 rfl) ?_
        refine lv_i2l (v := x5.toInt64) hx hb dX9_call_214 rfl ?_
        refine lv_ladd hx hb dX9_call_215 ?_
        obtain ⟨r210, D211, hq209, h⟩ := cq_i h
        refine r_cV (st' := [.int r210, .int x5, .ref a201]) [.long ((gL D o204 (3 : Int32).toNatClampNeg) + x5.toInt64)] [.int x5, .ref a201] hC hw kc_8 hi0 (k_X9_octetAt _ hi0 hq209) mk_X9_octetAt lk_1275 ⟨Nat.le_trans (by decide) hR.1, Nat.le_trans (by decide) hR.2⟩ ⟨Nat.zero_le _, Nat.zero_le _⟩ rfl hl.1 rfl rfl (Nat.le_of_ble_eq_true rfl) dX9_call_216 (fun hP H locs hw => ?_)
        obtain ⟨hn212, h⟩ := ix_i h
        refine r_ias hC hw hi202 hn212 dX9_call_219 (fun D213 eD213 H locs hw => ?_)
        have h := nm_i h D213 eD213
        obtain ⟨y214, ey214⟩ : ∃ z : Int32, z = x5 + 1 := ⟨_, rfl⟩
        have h := nm_i h y214 ey214
        refine lv_iinc (v := y214) (lv' := [(5, .int y214), (0, .ref a0), (1, .int x1), (4, .int x4)]) hx hb dX9_call_220 hl (k := 3) rfl (by rw [ey214]; rfl) (by decide) rfl (fun ls hl => ?_)
        refine lv_goto (tgt := 182) hx hb dX9_call_223 (by decide) ?_
        exact ih o0 a0 x1 x4 y214 _ _ _ _ hi0 hw (lv_sub hl [1, 2, 3, 0] rfl) h
set_option maxHeartbeats 4000000 in
set_option maxRecDepth 100000 in
theorem w_X9_call_140 {r : Int32} {D' : dt} (hC : Cx RX9 cX9_call 7 (some .boolean) p s m args meth c) (hR : 3 ≤ R.frames ∧ 69 ≤ R.locals) : ∀ (n : Nat), ∀ (o0 a0 : Nat) (x1 : Int32) (x4 : Int32) (x5 : Int32) (D : dt) (H : Heap) (locs : List Loc) (ls : Array Slot), Is S ad o0 a0 8 → Wd G cA S D ad A s H locs → lv_has ls 7 [(0, .ref a0), (1, .int x1), (4, .int x4), (5, .int x5)] → f_X9_call_140 S n o0 x1 x4 x5 D = some (r, D') → W p l e R s m args below meth c H locs 0 0 (MQ below (Qn (some (.int r)) True (wpost G cA S D' ad A) A) args s 0 0 A) (F0 m 140 ls []) := by
  obtain ⟨hx, hb, -⟩ := id hC
  intro n
  induction n with
  | zero =>
    intro o0 a0 x1 x4 x5 D H locs ls hi0 hw hl h
    rw [f_X9_call_140.eq_1] at h
    cases h
  | succ n ih =>
    intro o0 a0 x1 x4 x5 D H locs ls hi0 hw hl h
    rw [f_X9_call_140.eq_2] at h
    refine lv_iload hx hb dX9_call_140 (lv_at hl 3 rfl) ?_
    refine lv_aload_n hx hb dX9_call_142 rfl (lv_at hl 0 rfl) ?_
    obtain ⟨o215, ho218, h⟩ := rq_i h
    refine r_getR hC hw kc_8 hi0 11 rfl lk_1080 dX9_call_143 rfl ho218 (fun a216 hi217 => ?_)
    refine lv_iload hx hb dX9_call_146 (lv_at hl 2 rfl) ?_
    obtain ⟨hn219, h⟩ := ix_i h
    refine r_iald hC hw hi217 hn219 dX9_call_148 ?_
    refine lv_icmp_ge (tgt := 179) hx hb dX9_call_149 (by decide) (fun c220 => ?_) (fun c220 => ?_)
    · have h := i_yes c220 h
      refine lv_iconst (v := 0) hx hb dX9_call_179 (by decide) ?_
      refine lv_topi (fun y221 ey221 => ?_)
      have h := nm_i h y221 ey221
      refine lv_istore (lv' := [(5, .int y221), (0, .ref a0), (1, .int x1), (4, .int x4)]) hx hb dX9_call_180 hl (by decide) rfl (fun ls hl => ?_)
      exact w_X9_call_182 hC hR LF o0 a0 x1 x4 y221 _ _ _ _ hi0 hw (lv_sub hl [1, 2, 3, 0] rfl) h
    · have h := i_no c220 h
      refine lv_aload_n hx hb dX9_call_152 rfl (lv_at hl 0 rfl) ?_
      obtain ⟨o222, ho225, h⟩ := rq_i h
      refine r_getR hC hw kc_8 hi0 25 rfl lk_1094 dX9_call_153 rfl ho225 (fun a223 hi224 => ?_)
      refine lv_iload hx hb dX9_call_156 (lv_at hl 3 rfl) ?_
      refine lv_aload_n hx hb dX9_call_158 rfl (lv_at hl 0 rfl) ?_
      refine lv_aload_n hx hb dX9_call_159 rfl (lv_at hl 0 rfl) ?_
      obtain ⟨o226, ho229, h⟩ := rq_i h
      refine r_getR hC hw kc_8 hi0 21 rfl lk_1090 dX9_call_160 rfl ho229 (fun a227 hi228 => ?_)
      refine lv_iconst (v := 2) hx hb dX9_call_163 (by decide) ?_
      obtain ⟨hn230, h⟩ := ix_i h
      refine r_lald hC hw hi228 hn230 dX9_call_164 ?_
      refine lv_iload hx hb dX9_call_165 (lv_at hl 3 rfl) ?_
      refine lv_i2l (v := x5.toInt64) hx hb dX9_call_167 rfl ?_
      refine lv_ladd hx hb dX9_call_168 ?_
      obtain ⟨r232, D233, hq231, h⟩ := cq_i h
      refine r_cV (st' := [.int r232, .int x5, .ref a223]) [.long ((gL D o226 (2 : Int32).toNatClampNeg) + x5.toInt64)] [.int x5, .ref a223] hC hw kc_8 hi0 (k_X9_octetAt _ hi0 hq231) mk_X9_octetAt lk_1275 ⟨Nat.le_trans (by decide) hR.1, Nat.le_trans (by decide) hR.2⟩ ⟨Nat.zero_le _, Nat.zero_le _⟩ rfl hl.1 rfl rfl (Nat.le_of_ble_eq_true rfl) dX9_call_169 (fun hP H locs hw => ?_)
      obtain ⟨hn234, h⟩ := ix_i h
      refine r_ias hC hw hi224 hn234 dX9_call_172 (fun D235 eD235 H locs hw => ?_)
      have h := nm_i h D235 eD235
      obtain ⟨y236, ey236⟩ : ∃ z : Int32, z = x5 + 1 := ⟨_, rfl⟩
      have h := nm_i h y236 ey236
      refine lv_iinc (v := y236) (lv' := [(5, .int y236), (0, .ref a0), (1, .int x1), (4, .int x4)]) hx hb dX9_call_173 hl (k := 3) rfl (by rw [ey236]; rfl) (by decide) rfl (fun ls hl => ?_)
      refine lv_goto (tgt := 140) hx hb dX9_call_176 (by decide) ?_
      exact ih o0 a0 x1 x4 y236 _ _ _ _ hi0 hw (lv_sub hl [1, 2, 3, 0] rfl) h
set_option maxHeartbeats 4000000 in
set_option maxRecDepth 100000 in
theorem w_X9_call_137 {r : Int32} {D' : dt} (hC : Cx RX9 cX9_call 7 (some .boolean) p s m args meth c) (hR : 3 ≤ R.frames ∧ 69 ≤ R.locals) : ∀ (o0 a0 : Nat) (x1 : Int32) (x4 : Int32) (D : dt) (H : Heap) (locs : List Loc) (ls : Array Slot), Is S ad o0 a0 8 → Wd G cA S D ad A s H locs → lv_has ls 7 [(0, .ref a0), (1, .int x1), (4, .int x4)] → f_X9_call_137 S o0 x1 x4 D = some (r, D') → W p l e R s m args below meth c H locs 0 0 (MQ below (Qn (some (.int r)) True (wpost G cA S D' ad A) A) args s 0 0 A) (F0 m 137 ls []) := by
  obtain ⟨hx, hb, -⟩ := id hC
  intro o0 a0 x1 x4 D H locs ls hi0 hw hl h
  unfold f_X9_call_137 at h
  refine lv_iconst (v := 0) hx hb dX9_call_137 (by decide) ?_
  refine lv_topi (fun y237 ey237 => ?_)
  have h := nm_i h y237 ey237
  refine lv_istore (lv' := [(5, .int y237), (0, .ref a0), (1, .int x1), (4, .int x4)]) hx hb dX9_call_138 hl (by decide) rfl (fun ls hl => ?_)
  exact w_X9_call_140 hC hR LF o0 a0 x1 x4 y237 _ _ _ _ hi0 hw (lv_sub hl [1, 2, 3, 0] rfl) h
set_option maxHeartbeats 4000000 in
set_option maxRecDepth 100000 in
theorem w_X9_call_0 {r : Int32} {D' : dt} (hC : Cx RX9 cX9_call 7 (some .boolean) p s m args meth c) (hR : 3 ≤ R.frames ∧ 69 ≤ R.locals) : ∀ (o0 a0 : Nat) (x1 : Int32) (D : dt) (H : Heap) (locs : List Loc) (ls : Array Slot), Is S ad o0 a0 8 → Wd G cA S D ad A s H locs → lv_has ls 7 [(0, .ref a0), (1, .int x1)] → f_X9_call S o0 x1 D = some (r, D') → W p l e R s m args below meth c H locs 0 0 (MQ below (Qn (some (.int r)) True (wpost G cA S D' ad A) A) args s 0 0 A) (F0 m 0 ls []) := by
  obtain ⟨hx, hb, -⟩ := id hC
  intro o0 a0 x1 D H locs ls hi0 hw hl h
  unfold f_X9_call at h
  refine lv_aload_n hx hb dX9_call_0 rfl (lv_at hl 0 rfl) ?_
  refine r_gL hC hw kc_8 hi0 17 rfl lk_1086 dX9_call_1 ?_
  refine lv_topl (fun y238 ey238 => ?_)
  have h := nm_i h y238 ey238
  refine lv_lstore_n (lv' := [(2, .long y238), (0, .ref a0), (1, .int x1)]) hx hb dX9_call_4 rfl hl (by decide) rfl (fun ls hl => ?_)
  refine lv_iload_n hx hb dX9_call_5 rfl (lv_at hl 2 rfl) ?_
  refine lv_bipush (v := 6) hx hb dX9_call_6 (by decide) ?_
  refine lv_icmp_ne (tgt := 44) hx hb dX9_call_8 (by decide) (fun c239 => ?_) (fun c239 => ?_)
  · have h := i_no c239 h
    refine lv_iload_n hx hb dX9_call_44 rfl (lv_at hl 2 rfl) ?_
    refine lv_iconst (v := 4) hx hb dX9_call_45 (by decide) ?_
    refine lv_icmp_ge (tgt := 347) hx hb dX9_call_46 (by decide) (fun c240 => ?_) (fun c240 => ?_)
    · have h := i_yes c240 h
      exact w_X9_call_347 hC hR o0 a0 y238 _ _ _ _ hi0 hw (lv_sub hl [1, 0] rfl) h
    · have h := i_no c240 h
      refine lv_aload_n hx hb dX9_call_49 rfl (lv_at hl 1 rfl) ?_
      obtain ⟨o241, ho244, h⟩ := rq_i h
      refine r_getR hC hw kc_8 hi0 21 rfl lk_1090 dX9_call_50 rfl ho244 (fun a242 hi243 => ?_)
      refine lv_iconst (v := 1) hx hb dX9_call_53 (by decide) ?_
      obtain ⟨hn245, h⟩ := ix_i h
      refine r_lald hC hw hi243 hn245 dX9_call_54 ?_
      refine lv_ldc2 (v := 17179869184) hx hb hC.2.2.2.1 (hC.2.2.2.2.1 _ lk_1371) dX9_call_55 ?_
      refine lv_lsub hx hb dX9_call_58 ?_
      refine lv_l2i (v := ((gL D o241 (1 : Int32).toNatClampNeg) - (17179869184 : Int64)).toInt32) hx hb dX9_call_59 rfl ?_
      refine lv_topi (fun y246 ey246 => ?_)
      have h := nm_i h y246 ey246
      refine lv_istore (lv' := [(4, .int y246), (2, .long y238), (0, .ref a0), (1, .int x1)]) hx hb dX9_call_60 hl (by decide) rfl (fun ls hl => ?_)
      refine lv_aload_n hx hb dX9_call_62 rfl (lv_at hl 2 rfl) ?_
      obtain ⟨o247, ho250, h⟩ := rq_i h
      refine r_getR hC hw kc_8 hi0 21 rfl lk_1090 dX9_call_63 rfl ho250 (fun a248 hi249 => ?_)
      refine lv_iconst (v := 1) hx hb dX9_call_66 (by decide) ?_
      obtain ⟨hn251, h⟩ := ix_i h
      refine r_lald hC hw hi249 hn251 dX9_call_67 ?_
      refine lv_ldc2 (v := 17179869184) hx hb hC.2.2.2.1 (hC.2.2.2.2.1 _ lk_1371) dX9_call_68 ?_
      refine lv_ldc2 (v := 17179869184) hx hb hC.2.2.2.1 (hC.2.2.2.2.1 _ lk_1371) dX9_call_71 ?_
      refine lv_aload_n hx hb dX9_call_74 rfl (lv_at hl 2 rfl) ?_
      refine r_gI hC hw kc_8 hi0 9 rfl lk_1078 dX9_call_75 ?_
      refine lv_i2l (v := (gI D o0 9).toInt64) hx hb dX9_call_78 rfl ?_
      refine lv_ladd hx hb dX9_call_79 ?_
      refine lv_lconst (v := 1) hx hb dX9_call_80 (by decide) ?_
      refine lv_lsub hx hb dX9_call_81 ?_
      obtain ⟨r253, hq252, h⟩ := pq_i h
      refine r_cS (st' := [.int r253]) [.long (gL D o247 (1 : Int32).toNatClampNeg), .long (17179869184 : Int64), .long (((17179869184 : Int64) + ((gI D o0 9).toInt64)) - (1 : Int64))] [] hC hw (k_X9_in _ hq252) mk_X9_in lk_1240 ⟨Nat.le_trans (by decide) hR.1, Nat.le_trans (by decide) hR.2⟩ ⟨Nat.zero_le _, Nat.zero_le _⟩ rfl hl.1 rfl rfl (Nat.le_of_ble_eq_true rfl) dX9_call_82 (fun hP H locs hw => ?_)
      refine lv_if_eq (tgt := 135) hx hb dX9_call_85 (by decide) (fun c254 => ?_) (fun c254 => ?_)
      · have h := i_yes c254 h
        refine lv_iconst (v := 0) hx hb dX9_call_135 (by decide) ?_
        cases h
        exact r_zret hC hw (Or.inl rfl) dX9_call_136
      · have h := i_no c254 h
        refine lv_aload_n hx hb dX9_call_88 rfl (lv_at hl 2 rfl) ?_
        refine lv_aload_n hx hb dX9_call_89 rfl (lv_at hl 2 rfl) ?_
        obtain ⟨o255, ho258, h⟩ := rq_i h
        refine r_getR hC hw kc_8 hi0 21 rfl lk_1090 dX9_call_90 rfl ho258 (fun a256 hi257 => ?_)
        refine lv_iconst (v := 2) hx hb dX9_call_93 (by decide) ?_
        obtain ⟨hn259, h⟩ := ix_i h
        refine r_lald hC hw hi257 hn259 dX9_call_94 ?_
        refine lv_aload_n hx hb dX9_call_95 rfl (lv_at hl 2 rfl) ?_
        obtain ⟨o260, ho263, h⟩ := rq_i h
        refine r_getR hC hw kc_8 hi0 11 rfl lk_1080 dX9_call_96 rfl ho263 (fun a261 hi262 => ?_)
        refine lv_iload hx hb dX9_call_99 (lv_at hl 0 rfl) ?_
        obtain ⟨hn264, h⟩ := ix_i h
        refine r_iald hC hw hi262 hn264 dX9_call_101 ?_
        refine lv_iconst (v := 0) hx hb dX9_call_102 (by decide) ?_
        obtain ⟨r266, D267, hq265, h⟩ := cq_i h
        refine r_cV (st' := [.int r266]) [.long (gL D o255 (2 : Int32).toNatClampNeg), .int (gI D o260 y246.toNatClampNeg), .int (0 : Int32)] [] hC hw kc_8 hi0 (k_X9_isThere _ hi0 hq265) mk_X9_isThere lk_1261 ⟨Nat.le_trans (by decide) hR.1, Nat.le_trans (by decide) hR.2⟩ ⟨Nat.zero_le _, Nat.zero_le _⟩ rfl hl.1 rfl rfl (Nat.le_of_ble_eq_true rfl) dX9_call_103 (fun hP H locs hw => ?_)
        refine lv_if_eq (tgt := 135) hx hb dX9_call_106 (by decide) (fun c268 => ?_) (fun c268 => ?_)
        · have h := i_yes c268 h
          refine lv_iconst (v := 0) hx hb dX9_call_135 (by decide) ?_
          cases h
          exact r_zret hC hw (Or.inl rfl) dX9_call_136
        · have h := i_no c268 h
          refine lv_iload_n hx hb dX9_call_109 rfl (lv_at hl 3 rfl) ?_
          refine lv_iconst (v := 2) hx hb dX9_call_110 (by decide) ?_
          refine lv_icmp_ne (tgt := 137) hx hb dX9_call_111 (by decide) (fun c269 => ?_) (fun c269 => ?_)
          · have h := i_no c269 h
            exact w_X9_call_137 hC hR o0 a0 x1 y246 _ _ _ _ hi0 hw (lv_sub hl [2, 3, 0] rfl) h
          · have h := i_yes c269 h
            refine lv_aload_n hx hb dX9_call_114 rfl (lv_at hl 2 rfl) ?_
            refine lv_aload_n hx hb dX9_call_115 rfl (lv_at hl 2 rfl) ?_
            obtain ⟨o270, ho273, h⟩ := rq_i h
            refine r_getR hC hw kc_8 hi0 21 rfl lk_1090 dX9_call_116 rfl ho273 (fun a271 hi272 => ?_)
            refine lv_iconst (v := 3) hx hb dX9_call_119 (by decide) ?_
            obtain ⟨hn274, h⟩ := ix_i h
            refine r_lald hC hw hi272 hn274 dX9_call_120 ?_
            refine lv_aload_n hx hb dX9_call_121 rfl (lv_at hl 2 rfl) ?_
            obtain ⟨o275, ho278, h⟩ := rq_i h
            refine r_getR hC hw kc_8 hi0 12 rfl lk_1081 dX9_call_122 rfl ho278 (fun a276 hi277 => ?_)
            refine lv_iload hx hb dX9_call_125 (lv_at hl 0 rfl) ?_
            obtain ⟨hn279, h⟩ := ix_i h
            refine r_iald hC hw hi277 hn279 dX9_call_127 ?_
            refine lv_iconst (v := 0) hx hb dX9_call_128 (by decide) ?_
            obtain ⟨r281, D282, hq280, h⟩ := cq_i h
            refine r_cV (st' := [.int r281]) [.long (gL D267 o270 (3 : Int32).toNatClampNeg), .int (gI D267 o275 y246.toNatClampNeg), .int (0 : Int32)] [] hC hw kc_8 hi0 (k_X9_isThere _ hi0 hq280) mk_X9_isThere lk_1261 ⟨Nat.le_trans (by decide) hR.1, Nat.le_trans (by decide) hR.2⟩ ⟨Nat.zero_le _, Nat.zero_le _⟩ rfl hl.1 rfl rfl (Nat.le_of_ble_eq_true rfl) dX9_call_129 (fun hP H locs hw => ?_)
            refine lv_if_ne (tgt := 137) hx hb dX9_call_132 (by decide) (fun c283 => ?_) (fun c283 => ?_)
            · have h := i_no c283 h
              exact w_X9_call_137 hC hR o0 a0 x1 y246 _ _ _ _ hi0 hw (lv_sub hl [2, 3, 0] rfl) h
            · have h := i_yes c283 h
              refine lv_iconst (v := 0) hx hb dX9_call_135 (by decide) ?_
              cases h
              exact r_zret hC hw (Or.inl rfl) dX9_call_136
  · have h := i_yes c239 h
    refine lv_aload_n hx hb dX9_call_11 rfl (lv_at hl 1 rfl) ?_
    obtain ⟨o284, ho287, h⟩ := rq_i h
    refine r_getR hC hw kc_8 hi0 23 rfl lk_1092 dX9_call_12 rfl ho287 (fun a285 hi286 => ?_)
    refine lv_aload_n hx hb dX9_call_15 rfl (lv_at hl 1 rfl) ?_
    refine r_gI hC hw kc_8 hi0 22 rfl lk_1091 dX9_call_16 ?_
    refine lv_bipush (v := 32) hx hb dX9_call_19 (by decide) ?_
    refine lv_irem hx hb dX9_call_21 (by decide) ?_
    refine lv_aload_n hx hb dX9_call_22 rfl (lv_at hl 1 rfl) ?_
    obtain ⟨o288, ho291, h⟩ := rq_i h
    refine r_getR hC hw kc_8 hi0 21 rfl lk_1090 dX9_call_23 rfl ho291 (fun a289 hi290 => ?_)
    refine lv_iconst (v := 1) hx hb dX9_call_26 (by decide) ?_
    obtain ⟨hn292, h⟩ := ix_i h
    refine r_lald hC hw hi290 hn292 dX9_call_27 ?_
    obtain ⟨hn293, h⟩ := ix_i h
    refine r_las hC hw hi286 hn293 dX9_call_28 (fun D294 eD294 H locs hw => ?_)
    have h := nm_i h D294 eD294
    refine lv_aload_n hx hb dX9_call_29 rfl (lv_at hl 1 rfl) ?_
    refine lv_dup hx hb dX9_call_30 rfl ?_
    refine r_gI hC hw kc_8 hi0 22 rfl lk_1091 dX9_call_31 ?_
    refine lv_iconst (v := 1) hx hb dX9_call_34 (by decide) ?_
    refine lv_iadd hx hb dX9_call_35 ?_
    refine r_pI hC hw kc_8 hi0 22 rfl lk_1091 rfl rfl rfl dX9_call_36 (fun D295 eD295 H locs hw => ?_)
    have h := nm_i h D295 eD295
    refine lv_lconst (v := 0) hx hb dX9_call_39 (by decide) ?_
    refine lv_topl (fun y296 ey296 => ?_)
    have h := nm_i h y296 ey296
    refine lv_lstore_n (lv' := [(2, .long y296), (0, .ref a0), (1, .int x1)]) hx hb dX9_call_40 rfl hl (by decide) rfl (fun ls hl => ?_)
    refine lv_goto (tgt := 347) hx hb dX9_call_41 (by decide) ?_
    exact w_X9_call_347 hC hR o0 a0 y296 _ _ _ _ hi0 hw (lv_sub hl [1, 0] rfl) h
set_option maxHeartbeats 4000000 in
set_option maxRecDepth 100000 in
theorem k_X9_call {l : Launch} {G : va_G} {cA : Nat → ClassId} {S : sh} {D D' : dt} {ad : Nat → Nat} (sz : Nat) {o0 a0 : Nat} {x1 : Int32} {r : Int32} (hi0 : Is S ad o0 a0 8) (h : f_X9_call S o0 x1 D = some (r, D')) : Co l yX9_call (Cond.code yX9_call cX9_call 7 (some .boolean) :: tb0) 3 69 [.ref a0, .int x1] G cA S D ad sz (some (.int r)) True D' := by
  refine Met.ofW (cc := cX9_call) (maxL := 7) (ret := (some .boolean)) (by decide) rfl ?_
  intro p e s m args below meth c s₁ B hml hv
  obtain ⟨rfl, hsz, hP, hK, hD0, hT, hX⟩ := hv
  subst hsz
  have hts := atoms_spec (ws := Cond.code yX9_call cX9_call 7 (some .boolean) :: tb0) B.pre
  have hC : Cx RX9 cX9_call 7 (some .boolean) p s m _ meth c := ⟨B.exec, B.bytes, hml, findClass_of_methodNamed B.named, fun w q => hts w (List.mem_cons_of_mem _ q), B.returns, B.notSynchronized⟩
  have hw := Wd.entry hP hK hD0 hT hX
  have hl := lv_entry ([.ref a0, .int x1]) (n := 7) (Nat.le_of_ble_eq_true rfl)
  rw [lg_entry_eq]
  exact w_X9_call_0 hC ⟨Nat.le_refl _, Nat.le_refl _⟩ o0 a0 x1 D _ _ _ hi0 hw hl h
set_option maxHeartbeats 4000000 in
set_option maxRecDepth 100000 in
theorem w_X9_start_56 {r : Int32} {D' : dt} (hC : Cx RX9 cX9_start 2 (some .int) p s m args meth c) (hR : 0 ≤ R.frames ∧ 0 ≤ R.locals) : ∀ (n : Nat), ∀ (o0 a0 : Nat) (x1 : Int32) (D : dt) (H : Heap) (locs : List Loc) (ls : Array Slot), Is S ad o0 a0 8 → Wd G cA S D ad A s H locs → lv_has ls 2 [(0, .ref a0), (1, .int x1)] → f_X9_start_56 S n o0 x1 D = some (r, D') → W p l e R s m args below meth c H locs 0 0 (MQ below (Qn (some (.int r)) True (wpost G cA S D' ad A) A) args s 0 0 A) (F0 m 56 ls []) := by
  obtain ⟨hx, hb, -⟩ := id hC
  intro n
  induction n with
  | zero =>
    intro o0 a0 x1 D H locs ls hi0 hw hl h
    rw [f_X9_start_56.eq_1] at h
    cases h
  | succ n ih =>
    intro o0 a0 x1 D H locs ls hi0 hw hl h
    rw [f_X9_start_56.eq_2] at h
    refine lv_iload_n hx hb dX9_start_56 rfl (lv_at hl 1 rfl) ?_
    refine lv_sipush (v := 512) hx hb dX9_start_57 (by decide) ?_
    refine lv_icmp_ge (tgt := 76) hx hb dX9_start_60 (by decide) (fun c26 => ?_) (fun c26 => ?_)
    · have h := i_yes c26 h
      refine lv_aload_n hx hb dX9_start_76 rfl (lv_at hl 0 rfl) ?_
      refine lv_iconst (v := 0) hx hb dX9_start_77 (by decide) ?_
      refine r_pI hC hw kc_8 hi0 19 rfl lk_1088 rfl rfl rfl dX9_start_78 (fun D27 eD27 H locs hw => ?_)
      have h := nm_i h D27 eD27
      refine lv_aload_n hx hb dX9_start_81 rfl (lv_at hl 0 rfl) ?_
      refine lv_iconst (v := 0) hx hb dX9_start_82 (by decide) ?_
      refine r_pI hC hw kc_8 hi0 20 rfl lk_1089 rfl rfl rfl dX9_start_83 (fun D28 eD28 H locs hw => ?_)
      have h := nm_i h D28 eD28
      refine lv_aload_n hx hb dX9_start_86 rfl (lv_at hl 0 rfl) ?_
      refine lv_iconst (v := 0) hx hb dX9_start_87 (by decide) ?_
      refine r_pI hC hw kc_8 hi0 22 rfl lk_1091 rfl rfl rfl dX9_start_88 (fun D29 eD29 H locs hw => ?_)
      have h := nm_i h D29 eD29
      refine lv_aload_n hx hb dX9_start_91 rfl (lv_at hl 0 rfl) ?_
      refine lv_iconst (v := 1) hx hb dX9_start_92 (by decide) ?_
      refine r_pI hC hw kc_8 hi0 18 rfl lk_1087 rfl rfl rfl dX9_start_93 (fun D30 eD30 H locs hw => ?_)
      have h := nm_i h D30 eD30
      refine lv_iconst (v := 1) hx hb dX9_start_96 (by decide) ?_
      cases h
      exact r_iret hC hw dX9_start_97
    · have h := i_no c26 h
      refine lv_aload_n hx hb dX9_start_63 rfl (lv_at hl 0 rfl) ?_
      obtain ⟨o31, ho34, h⟩ := rq_i h
      refine r_getR hC hw kc_8 hi0 8 rfl lk_1077 dX9_start_64 rfl ho34 (fun a32 hi33 => ?_)
      refine lv_iload_n hx hb dX9_start_67 rfl (lv_at hl 1 rfl) ?_
      refine lv_iconst (v := 0) hx hb dX9_start_68 (by decide) ?_
      obtain ⟨hn35, h⟩ := ix_i h
      refine r_ias hC hw hi33 hn35 dX9_start_69 (fun D36 eD36 H locs hw => ?_)
      have h := nm_i h D36 eD36
      obtain ⟨y37, ey37⟩ : ∃ z : Int32, z = x1 + 1 := ⟨_, rfl⟩
      have h := nm_i h y37 ey37
      refine lv_iinc (v := y37) (lv' := [(1, .int y37), (0, .ref a0)]) hx hb dX9_start_70 hl (k := 1) rfl (by rw [ey37]; rfl) (by decide) rfl (fun ls hl => ?_)
      refine lv_goto (tgt := 56) hx hb dX9_start_73 (by decide) ?_
      exact ih o0 a0 y37 _ _ _ _ hi0 hw (lv_sub hl [1, 0] rfl) h
set_option maxHeartbeats 4000000 in
set_option maxRecDepth 100000 in
theorem w_X9_start_47 {r : Int32} {D' : dt} (hC : Cx RX9 cX9_start 2 (some .int) p s m args meth c) (hR : 0 ≤ R.frames ∧ 0 ≤ R.locals) {k12 : Nat → Int32 → dt → Option (Int32 × dt)} (hk12 : ∀ (o0 a0 : Nat) (x1 : Int32) (D : dt) (H : Heap) (locs : List Loc) (ls : Array Slot), Is S ad o0 a0 8 → Wd G cA S D ad A s H locs → lv_has ls 2 [(0, .ref a0), (1, .int x1)] → k12 o0 x1 D = some (r, D') → W p l e R s m args below meth c H locs 0 0 (MQ below (Qn (some (.int r)) True (wpost G cA S D' ad A) A) args s 0 0 A) (F0 m 12 ls [])) : ∀ (o0 a0 : Nat) (x1 : Int32) (os0 as0 : Nat) (xs1 : Int32) (xs2 : Int64) (D : dt) (H : Heap) (locs : List Loc) (ls : Array Slot), Is S ad o0 a0 8 → Is S ad os0 as0 101 → Wd G cA S D ad A s H locs → lv_has ls 2 [(0, .ref a0), (1, .int x1)] → f_X9_start_47 S k12 o0 x1 os0 xs1 xs2 D = some (r, D') → W p l e R s m args below meth c H locs 0 0 (MQ below (Qn (some (.int r)) True (wpost G cA S D' ad A) A) args s 0 0 A) (F0 m 47 ls [.long xs2, .int xs1, .ref as0]) := by
  obtain ⟨hx, hb, -⟩ := id hC
  intro o0 a0 x1 os0 as0 xs1 xs2 D H locs ls hi0 his0 hw hl h
  unfold f_X9_start_47 at h
  obtain ⟨hn38, h⟩ := ix_i h
  refine r_las hC hw his0 hn38 dX9_start_47 (fun D39 eD39 H locs hw => ?_)
  have h := nm_i h D39 eD39
  obtain ⟨y40, ey40⟩ : ∃ z : Int32, z = x1 + 1 := ⟨_, rfl⟩
  have h := nm_i h y40 ey40
  refine lv_iinc (v := y40) (lv' := [(1, .int y40), (0, .ref a0)]) hx hb dX9_start_48 hl (k := 1) rfl (by rw [ey40]; rfl) (by decide) rfl (fun ls hl => ?_)
  refine lv_goto (tgt := 12) hx hb dX9_start_51 (by decide) ?_
  exact hk12 o0 a0 y40 _ _ _ _ hi0 hw (lv_sub hl [1, 0] rfl) h
set_option maxHeartbeats 4000000 in
set_option maxRecDepth 100000 in
theorem w_X9_start_12 {r : Int32} {D' : dt} (hC : Cx RX9 cX9_start 2 (some .int) p s m args meth c) (hR : 0 ≤ R.frames ∧ 0 ≤ R.locals) : ∀ (n : Nat), ∀ (o0 a0 : Nat) (x1 : Int32) (D : dt) (H : Heap) (locs : List Loc) (ls : Array Slot), Is S ad o0 a0 8 → Wd G cA S D ad A s H locs → lv_has ls 2 [(0, .ref a0), (1, .int x1)] → f_X9_start_12 S n o0 x1 D = some (r, D') → W p l e R s m args below meth c H locs 0 0 (MQ below (Qn (some (.int r)) True (wpost G cA S D' ad A) A) args s 0 0 A) (F0 m 12 ls []) := by
  obtain ⟨hx, hb, -⟩ := id hC
  intro n
  induction n with
  | zero =>
    intro o0 a0 x1 D H locs ls hi0 hw hl h
    rw [f_X9_start_12.eq_1] at h
    cases h
  | succ n ih =>
    intro o0 a0 x1 D H locs ls hi0 hw hl h
    rw [f_X9_start_12.eq_2] at h
    refine lv_iload_n hx hb dX9_start_12 rfl (lv_at hl 1 rfl) ?_
    refine lv_bipush (v := 11) hx hb dX9_start_13 (by decide) ?_
    refine lv_icmp_ge (tgt := 54) hx hb dX9_start_15 (by decide) (fun c41 => ?_) (fun c41 => ?_)
    · have h := i_yes c41 h
      refine lv_iconst (v := 0) hx hb dX9_start_54 (by decide) ?_
      refine lv_topi (fun y42 ey42 => ?_)
      have h := nm_i h y42 ey42
      refine lv_istore_n (lv' := [(1, .int y42), (0, .ref a0)]) hx hb dX9_start_55 rfl hl (by decide) rfl (fun ls hl => ?_)
      exact w_X9_start_56 hC hR LF o0 a0 y42 _ _ _ _ hi0 hw (lv_sub hl [1, 0] rfl) h
    · have h := i_no c41 h
      refine lv_aload_n hx hb dX9_start_18 rfl (lv_at hl 0 rfl) ?_
      obtain ⟨o43, ho46, h⟩ := rq_i h
      refine r_getR hC hw kc_8 hi0 21 rfl lk_1090 dX9_start_19 rfl ho46 (fun a44 hi45 => ?_)
      refine lv_iload_n hx hb dX9_start_22 rfl (lv_at hl 1 rfl) ?_
      refine lv_iload_n hx hb dX9_start_23 rfl (lv_at hl 1 rfl) ?_
      refine lv_iconst (v := 1) hx hb dX9_start_24 (by decide) ?_
      refine lv_icmp_ne (tgt := 34) hx hb dX9_start_25 (by decide) (fun c47 => ?_) (fun c47 => ?_)
      · have h := i_no c47 h
        refine lv_iload_n hx hb dX9_start_34 rfl (lv_at hl 1 rfl) ?_
        refine lv_bipush (v := 10) hx hb dX9_start_35 (by decide) ?_
        refine lv_icmp_ne (tgt := 46) hx hb dX9_start_37 (by decide) (fun c48 => ?_) (fun c48 => ?_)
        · have h := i_no c48 h
          refine lv_lconst (v := 0) hx hb dX9_start_46 (by decide) ?_
          exact w_X9_start_47 hC hR ih o0 a0 x1 o43 a44 x1 (0 : Int64) _ _ _ _ hi0 hi45 hw (lv_sub hl [0, 1] rfl) h
        · have h := i_yes c48 h
          refine lv_ldc2 (v := 8589934592) hx hb hC.2.2.2.1 (hC.2.2.2.2.1 _ lk_1268) dX9_start_40 ?_
          refine lv_goto (tgt := 47) hx hb dX9_start_43 (by decide) ?_
          exact w_X9_start_47 hC hR ih o0 a0 x1 o43 a44 x1 (8589934592 : Int64) _ _ _ _ hi0 hi45 hw (lv_sub hl [0, 1] rfl) h
      · have h := i_yes c47 h
        refine lv_ldc2 (v := 4294967296) hx hb hC.2.2.2.1 (hC.2.2.2.2.1 _ lk_1265) dX9_start_28 ?_
        refine lv_goto (tgt := 47) hx hb dX9_start_31 (by decide) ?_
        exact w_X9_start_47 hC hR ih o0 a0 x1 o43 a44 x1 (4294967296 : Int64) _ _ _ _ hi0 hi45 hw (lv_sub hl [0, 1] rfl) h
set_option maxHeartbeats 4000000 in
set_option maxRecDepth 100000 in
theorem w_X9_start_0 {r : Int32} {D' : dt} (hC : Cx RX9 cX9_start 2 (some .int) p s m args meth c) (hR : 0 ≤ R.frames ∧ 0 ≤ R.locals) : ∀ (o0 a0 : Nat) (D : dt) (H : Heap) (locs : List Loc) (ls : Array Slot), Is S ad o0 a0 8 → Wd G cA S D ad A s H locs → lv_has ls 2 [(0, .ref a0)] → f_X9_start S o0 D = some (r, D') → W p l e R s m args below meth c H locs 0 0 (MQ below (Qn (some (.int r)) True (wpost G cA S D' ad A) A) args s 0 0 A) (F0 m 0 ls []) := by
  obtain ⟨hx, hb, -⟩ := id hC
  intro o0 a0 D H locs ls hi0 hw hl h
  unfold f_X9_start at h
  refine lv_aload_n hx hb dX9_start_0 rfl (lv_at hl 0 rfl) ?_
  refine r_gI hC hw kc_8 hi0 0 rfl lk_1069 dX9_start_1 ?_
  refine lv_if_ne (tgt := 10) hx hb dX9_start_4 (by decide) (fun c49 => ?_) (fun c49 => ?_)
  · have h := i_no c49 h
    refine lv_iconst (v := 0) hx hb dX9_start_10 (by decide) ?_
    refine lv_topi (fun y50 ey50 => ?_)
    have h := nm_i h y50 ey50
    refine lv_istore_n (lv' := [(1, .int y50), (0, .ref a0)]) hx hb dX9_start_11 rfl hl (by decide) rfl (fun ls hl => ?_)
    exact w_X9_start_12 hC hR LF o0 a0 y50 _ _ _ _ hi0 hw (lv_sub hl [1, 0] rfl) h
  · have h := i_yes c49 h
    refine lv_bipush (v := (-3)) hx hb dX9_start_7 (by decide) ?_
    cases h
    exact r_iret hC hw dX9_start_9
set_option maxHeartbeats 4000000 in
set_option maxRecDepth 100000 in
theorem k_X9_start {l : Launch} {G : va_G} {cA : Nat → ClassId} {S : sh} {D D' : dt} {ad : Nat → Nat} (sz : Nat) {o0 a0 : Nat} {r : Int32} (hi0 : Is S ad o0 a0 8) (h : f_X9_start S o0 D = some (r, D')) : Co l yX9_start (Cond.code yX9_start cX9_start 2 (some .int) :: tb0) 0 0 [.ref a0] G cA S D ad sz (some (.int r)) True D' := by
  refine Met.ofW (cc := cX9_start) (maxL := 2) (ret := (some .int)) (by decide) rfl ?_
  intro p e s m args below meth c s₁ B hml hv
  obtain ⟨rfl, hsz, hP, hK, hD0, hT, hX⟩ := hv
  subst hsz
  have hts := atoms_spec (ws := Cond.code yX9_start cX9_start 2 (some .int) :: tb0) B.pre
  have hC : Cx RX9 cX9_start 2 (some .int) p s m _ meth c := ⟨B.exec, B.bytes, hml, findClass_of_methodNamed B.named, fun w q => hts w (List.mem_cons_of_mem _ q), B.returns, B.notSynchronized⟩
  have hw := Wd.entry hP hK hD0 hT hX
  have hl := lv_entry ([.ref a0]) (n := 2) (Nat.le_of_ble_eq_true rfl)
  rw [lg_entry_eq]
  exact w_X9_start_0 hC ⟨Nat.le_refl _, Nat.le_refl _⟩ o0 a0 D _ _ _ hi0 hw hl h
set_option maxHeartbeats 4000000 in
set_option maxRecDepth 100000 in
theorem w_X9_load_71 {r : Int32} {D' : dt} (hC : Cx RX9 cX9_load 8 (some .boolean) p s m args meth c) (hR : 4 ≤ R.frames ∧ 95 ≤ R.locals) : ∀ (os0 as0 : Nat) (xs1 : Int32) (xs2 : Int64) (D : dt) (H : Heap) (locs : List Loc) (ls : Array Slot), Is S ad os0 as0 101 → Wd G cA S D ad A s H locs → lv_has ls 8 [] → f_X9_load_71 S os0 xs1 xs2 D = some (r, D') → W p l e R s m args below meth c H locs 0 0 (MQ below (Qn (some (.int r)) True (wpost G cA S D' ad A) A) args s 0 0 A) (F0 m 71 ls [.long xs2, .int xs1, .ref as0]) := by
  obtain ⟨hx, hb, -⟩ := id hC
  intro os0 as0 xs1 xs2 D H locs ls his0 hw hl h
  unfold f_X9_load_71 at h
  obtain ⟨hn38, h⟩ := ix_i h
  refine r_las hC hw his0 hn38 dX9_load_71 (fun D39 eD39 H locs hw => ?_)
  have h := nm_i h D39 eD39
  refine lv_iconst (v := 1) hx hb dX9_load_72 (by decide) ?_
  cases h
  exact r_zret hC hw (Or.inr rfl) dX9_load_73
set_option maxHeartbeats 4000000 in
set_option maxRecDepth 100000 in
theorem w_X9_load_0 {r : Int32} {D' : dt} (hC : Cx RX9 cX9_load 8 (some .boolean) p s m args meth c) (hR : 4 ≤ R.frames ∧ 95 ≤ R.locals) : ∀ (o0 a0 : Nat) (x1 : Int32) (x2 : Int32) (x3 : Int32) (D : dt) (H : Heap) (locs : List Loc) (ls : Array Slot), Is S ad o0 a0 8 → Wd G cA S D ad A s H locs → lv_has ls 8 [(0, .ref a0), (1, .int x1), (2, .int x2), (3, .int x3)] → f_X9_load S o0 x1 x2 x3 D = some (r, D') → W p l e R s m args below meth c H locs 0 0 (MQ below (Qn (some (.int r)) True (wpost G cA S D' ad A) A) args s 0 0 A) (F0 m 0 ls []) := by
  obtain ⟨hx, hb, -⟩ := id hC
  intro o0 a0 x1 x2 x3 D H locs ls hi0 hw hl h
  unfold f_X9_load at h
  refine lv_aload_n hx hb dX9_load_0 rfl (lv_at hl 0 rfl) ?_
  obtain ⟨o40, ho43, h⟩ := rq_i h
  refine r_getR hC hw kc_8 hi0 21 rfl lk_1090 dX9_load_1 rfl ho43 (fun a41 hi42 => ?_)
  refine lv_aload_n hx hb dX9_load_4 rfl (lv_at hl 0 rfl) ?_
  obtain ⟨o44, ho47, h⟩ := rq_i h
  refine r_getR hC hw kc_8 hi0 3 rfl lk_1072 dX9_load_5 rfl ho47 (fun a45 hi46 => ?_)
  refine lv_iload_n hx hb dX9_load_8 rfl (lv_at hl 1 rfl) ?_
  obtain ⟨hn48, h⟩ := ix_i h
  refine r_iald hC hw hi46 hn48 dX9_load_9 ?_
  obtain ⟨hn49, h⟩ := ix_i h
  refine r_lald hC hw hi42 hn49 dX9_load_10 ?_
  refine lv_aload_n hx hb dX9_load_11 rfl (lv_at hl 0 rfl) ?_
  obtain ⟨o50, ho53, h⟩ := rq_i h
  refine r_getR hC hw kc_8 hi0 4 rfl lk_1073 dX9_load_12 rfl ho53 (fun a51 hi52 => ?_)
  refine lv_iload_n hx hb dX9_load_15 rfl (lv_at hl 1 rfl) ?_
  obtain ⟨hn54, h⟩ := ix_i h
  refine r_iald hC hw hi52 hn54 dX9_load_16 ?_
  refine lv_i2l (v := (gI D o50 x1.toNatClampNeg).toInt64) hx hb dX9_load_17 rfl ?_
  refine lv_ladd hx hb dX9_load_18 ?_
  refine lv_topl (fun y55 ey55 => ?_)
  have h := nm_i h y55 ey55
  refine lv_lstore (lv' := [(4, .long y55), (0, .ref a0), (1, .int x1), (2, .int x2), (3, .int x3)]) hx hb dX9_load_19 hl (by decide) rfl (fun ls hl => ?_)
  refine lv_aload_n hx hb dX9_load_21 rfl (lv_at hl 1 rfl) ?_
  refine lv_lload hx hb dX9_load_22 (lv_at hl 0 rfl) ?_
  refine lv_iload_n hx hb dX9_load_24 rfl (lv_at hl 3 rfl) ?_
  refine lv_iconst (v := 0) hx hb dX9_load_25 (by decide) ?_
  obtain ⟨r57, D58, hq56, h⟩ := cq_i h
  refine r_cV (st' := [.int r57]) [.long y55, .int x2, .int (0 : Int32)] [] hC hw kc_8 hi0 (k_X9_isThere _ hi0 hq56) mk_X9_isThere lk_1261 ⟨Nat.le_trans (by decide) hR.1, Nat.le_trans (by decide) hR.2⟩ ⟨Nat.zero_le _, Nat.zero_le _⟩ rfl hl.1 rfl rfl (Nat.le_of_ble_eq_true rfl) dX9_load_26 (fun hP H locs hw => ?_)
  refine lv_if_ne (tgt := 34) hx hb dX9_load_29 (by decide) (fun c59 => ?_) (fun c59 => ?_)
  · have h := i_no c59 h
    refine lv_aload_n hx hb dX9_load_34 rfl (lv_at hl 1 rfl) ?_
    refine lv_lload hx hb dX9_load_35 (lv_at hl 0 rfl) ?_
    refine lv_iload_n hx hb dX9_load_37 rfl (lv_at hl 3 rfl) ?_
    obtain ⟨r61, D62, hq60, h⟩ := cq_i h
    refine r_cV (st' := [.long r61]) [.long y55, .int x2] [] hC hw kc_8 hi0 (k_X9_numberAt _ hi0 hq60) mk_X9_numberAt lk_1385 ⟨Nat.le_trans (by decide) hR.1, Nat.le_trans (by decide) hR.2⟩ ⟨Nat.zero_le _, Nat.zero_le _⟩ rfl hl.1 rfl rfl (Nat.le_of_ble_eq_true rfl) dX9_load_38 (fun hP H locs hw => ?_)
    refine lv_lstore (lv' := [(6, .long r61), (4, .long y55), (0, .ref a0), (1, .int x1), (2, .int x2), (3, .int x3)]) hx hb dX9_load_41 hl (by decide) rfl (fun ls hl => ?_)
    refine lv_aload_n hx hb dX9_load_43 rfl (lv_at hl 2 rfl) ?_
    obtain ⟨o63, ho66, h⟩ := rq_i h
    refine r_getR hC hw kc_8 hi0 21 rfl lk_1090 dX9_load_44 rfl ho66 (fun a64 hi65 => ?_)
    refine lv_aload_n hx hb dX9_load_47 rfl (lv_at hl 2 rfl) ?_
    obtain ⟨o67, ho70, h⟩ := rq_i h
    refine r_getR hC hw kc_8 hi0 2 rfl lk_1071 dX9_load_48 rfl ho70 (fun a68 hi69 => ?_)
    refine lv_iload_n hx hb dX9_load_51 rfl (lv_at hl 3 rfl) ?_
    obtain ⟨hn71, h⟩ := ix_i h
    refine r_iald hC hw hi69 hn71 dX9_load_52 ?_
    refine lv_iload_n hx hb dX9_load_53 rfl (lv_at hl 5 rfl) ?_
    refine lv_if_eq (tgt := 69) hx hb dX9_load_54 (by decide) (fun c72 => ?_) (fun c72 => ?_)
    · have h := i_yes c72 h
      refine lv_lload hx hb dX9_load_69 (lv_at hl 0 rfl) ?_
      exact w_X9_load_71 hC hR o63 a64 (gI D62 o67 x1.toNatClampNeg) r61 _ _ _ _ hi65 hw (lv_sub hl [] rfl) h
    · have h := i_no c72 h
      refine lv_lload hx hb dX9_load_57 (lv_at hl 0 rfl) ?_
      refine lv_bipush (v := 8) hx hb dX9_load_59 (by decide) ?_
      refine lv_iload_n hx hb dX9_load_61 rfl (lv_at hl 4 rfl) ?_
      refine lv_imul hx hb dX9_load_62 ?_
      obtain ⟨r74, hq73, h⟩ := pq_i h
      refine r_cS (st' := [.long r74, .int (gI D62 o67 x1.toNatClampNeg), .ref a64]) [.long r61, .int ((8 : Int32) * x2)] [.int (gI D62 o67 x1.toNatClampNeg), .ref a64] hC hw (k_X9_signed _ hq73) mk_X9_signed lk_1359 ⟨Nat.le_trans (by decide) hR.1, Nat.le_trans (by decide) hR.2⟩ ⟨Nat.zero_le _, Nat.zero_le _⟩ rfl hl.1 rfl rfl (Nat.le_of_ble_eq_true rfl) dX9_load_63 (fun hP H locs hw => ?_)
      refine lv_goto (tgt := 71) hx hb dX9_load_66 (by decide) ?_
      exact w_X9_load_71 hC hR o63 a64 (gI D62 o67 x1.toNatClampNeg) r74 _ _ _ _ hi65 hw (lv_sub hl [] rfl) h
  · have h := i_yes c59 h
    refine lv_iconst (v := 0) hx hb dX9_load_32 (by decide) ?_
    cases h
    exact r_zret hC hw (Or.inl rfl) dX9_load_33
set_option maxHeartbeats 4000000 in
set_option maxRecDepth 100000 in
theorem k_X9_load {l : Launch} {G : va_G} {cA : Nat → ClassId} {S : sh} {D D' : dt} {ad : Nat → Nat} (sz : Nat) {o0 a0 : Nat} {x1 : Int32} {x2 : Int32} {x3 : Int32} {r : Int32} (hi0 : Is S ad o0 a0 8) (h : f_X9_load S o0 x1 x2 x3 D = some (r, D')) : Co l yX9_load (Cond.code yX9_load cX9_load 8 (some .boolean) :: tb0) 4 95 [.ref a0, .int x1, .int x2, .int x3] G cA S D ad sz (some (.int r)) True D' := by
  refine Met.ofW (cc := cX9_load) (maxL := 8) (ret := (some .boolean)) (by decide) rfl ?_
  intro p e s m args below meth c s₁ B hml hv
  obtain ⟨rfl, hsz, hP, hK, hD0, hT, hX⟩ := hv
  subst hsz
  have hts := atoms_spec (ws := Cond.code yX9_load cX9_load 8 (some .boolean) :: tb0) B.pre
  have hC : Cx RX9 cX9_load 8 (some .boolean) p s m _ meth c := ⟨B.exec, B.bytes, hml, findClass_of_methodNamed B.named, fun w q => hts w (List.mem_cons_of_mem _ q), B.returns, B.notSynchronized⟩
  have hw := Wd.entry hP hK hD0 hT hX
  have hl := lv_entry ([.ref a0, .int x1, .int x2, .int x3]) (n := 8) (Nat.le_of_ble_eq_true rfl)
  rw [lg_entry_eq]
  exact w_X9_load_0 hC ⟨Nat.le_refl _, Nat.le_refl _⟩ o0 a0 x1 x2 x3 D _ _ _ hi0 hw hl h
set_option maxHeartbeats 4000000 in
set_option maxRecDepth 100000 in
theorem w_X9_put_0 {r : Int32} {D' : dt} (hC : Cx RX9 cX9_put 7 (some .boolean) p s m args meth c) (hR : 4 ≤ R.frames ∧ 96 ≤ R.locals) : ∀ (o0 a0 : Nat) (x1 : Int32) (x2 : Int32) (x3 : Int64) (D : dt) (H : Heap) (locs : List Loc) (ls : Array Slot), Is S ad o0 a0 8 → Wd G cA S D ad A s H locs → lv_has ls 7 [(0, .ref a0), (1, .int x1), (2, .int x2), (3, .long x3)] → f_X9_put S o0 x1 x2 x3 D = some (r, D') → W p l e R s m args below meth c H locs 0 0 (MQ below (Qn (some (.int r)) True (wpost G cA S D' ad A) A) args s 0 0 A) (F0 m 0 ls []) := by
  obtain ⟨hx, hb, -⟩ := id hC
  intro o0 a0 x1 x2 x3 D H locs ls hi0 hw hl h
  unfold f_X9_put at h
  refine lv_aload_n hx hb dX9_put_0 rfl (lv_at hl 0 rfl) ?_
  obtain ⟨o23, ho26, h⟩ := rq_i h
  refine r_getR hC hw kc_8 hi0 21 rfl lk_1090 dX9_put_1 rfl ho26 (fun a24 hi25 => ?_)
  refine lv_aload_n hx hb dX9_put_4 rfl (lv_at hl 0 rfl) ?_
  obtain ⟨o27, ho30, h⟩ := rq_i h
  refine r_getR hC hw kc_8 hi0 2 rfl lk_1071 dX9_put_5 rfl ho30 (fun a28 hi29 => ?_)
  refine lv_iload_n hx hb dX9_put_8 rfl (lv_at hl 1 rfl) ?_
  obtain ⟨hn31, h⟩ := ix_i h
  refine r_iald hC hw hi29 hn31 dX9_put_9 ?_
  obtain ⟨hn32, h⟩ := ix_i h
  refine r_lald hC hw hi25 hn32 dX9_put_10 ?_
  refine lv_aload_n hx hb dX9_put_11 rfl (lv_at hl 0 rfl) ?_
  obtain ⟨o33, ho36, h⟩ := rq_i h
  refine r_getR hC hw kc_8 hi0 4 rfl lk_1073 dX9_put_12 rfl ho36 (fun a34 hi35 => ?_)
  refine lv_iload_n hx hb dX9_put_15 rfl (lv_at hl 1 rfl) ?_
  obtain ⟨hn37, h⟩ := ix_i h
  refine r_iald hC hw hi35 hn37 dX9_put_16 ?_
  refine lv_i2l (v := (gI D o33 x1.toNatClampNeg).toInt64) hx hb dX9_put_17 rfl ?_
  refine lv_ladd hx hb dX9_put_18 ?_
  refine lv_topl (fun y38 ey38 => ?_)
  have h := nm_i h y38 ey38
  refine lv_lstore (lv' := [(5, .long y38), (0, .ref a0), (1, .int x1), (2, .int x2), (3, .long x3)]) hx hb dX9_put_19 hl (by decide) rfl (fun ls hl => ?_)
  refine lv_aload_n hx hb dX9_put_21 rfl (lv_at hl 1 rfl) ?_
  refine lv_lload hx hb dX9_put_22 (lv_at hl 0 rfl) ?_
  refine lv_iload_n hx hb dX9_put_24 rfl (lv_at hl 3 rfl) ?_
  refine lv_iconst (v := 1) hx hb dX9_put_25 (by decide) ?_
  obtain ⟨r40, D41, hq39, h⟩ := cq_i h
  refine r_cV (st' := [.int r40]) [.long y38, .int x2, .int (1 : Int32)] [] hC hw kc_8 hi0 (k_X9_isThere _ hi0 hq39) mk_X9_isThere lk_1261 ⟨Nat.le_trans (by decide) hR.1, Nat.le_trans (by decide) hR.2⟩ ⟨Nat.zero_le _, Nat.zero_le _⟩ rfl hl.1 rfl rfl (Nat.le_of_ble_eq_true rfl) dX9_put_26 (fun hP H locs hw => ?_)
  refine lv_if_ne (tgt := 34) hx hb dX9_put_29 (by decide) (fun c42 => ?_) (fun c42 => ?_)
  · have h := i_no c42 h
    refine lv_aload_n hx hb dX9_put_34 rfl (lv_at hl 1 rfl) ?_
    refine lv_lload hx hb dX9_put_35 (lv_at hl 0 rfl) ?_
    refine lv_iload_n hx hb dX9_put_37 rfl (lv_at hl 3 rfl) ?_
    refine lv_lload_n hx hb dX9_put_38 rfl (lv_at hl 4 rfl) ?_
    obtain ⟨_, D44, hq43, h⟩ := cq_i h
    refine r_cV (st' := []) [.long y38, .int x2, .long x3] [] hC hw kc_8 hi0 (k_X9_setNumber _ hi0 hq43) mk_X9_setNumber lk_1393 ⟨Nat.le_trans (by decide) hR.1, Nat.le_trans (by decide) hR.2⟩ ⟨Nat.zero_le _, Nat.zero_le _⟩ rfl hl.1 rfl rfl (Nat.le_of_ble_eq_true rfl) dX9_put_39 (fun hP H locs hw => ?_)
    refine lv_iconst (v := 1) hx hb dX9_put_42 (by decide) ?_
    cases h
    exact r_zret hC hw (Or.inr rfl) dX9_put_43
  · have h := i_yes c42 h
    refine lv_iconst (v := 0) hx hb dX9_put_32 (by decide) ?_
    cases h
    exact r_zret hC hw (Or.inl rfl) dX9_put_33
set_option maxHeartbeats 4000000 in
set_option maxRecDepth 100000 in
theorem k_X9_put {l : Launch} {G : va_G} {cA : Nat → ClassId} {S : sh} {D D' : dt} {ad : Nat → Nat} (sz : Nat) {o0 a0 : Nat} {x1 : Int32} {x2 : Int32} {x3 : Int64} {r : Int32} (hi0 : Is S ad o0 a0 8) (h : f_X9_put S o0 x1 x2 x3 D = some (r, D')) : Co l yX9_put (Cond.code yX9_put cX9_put 7 (some .boolean) :: tb0) 4 96 [.ref a0, .int x1, .int x2, .long x3] G cA S D ad sz (some (.int r)) True D' := by
  refine Met.ofW (cc := cX9_put) (maxL := 7) (ret := (some .boolean)) (by decide) rfl ?_
  intro p e s m args below meth c s₁ B hml hv
  obtain ⟨rfl, hsz, hP, hK, hD0, hT, hX⟩ := hv
  subst hsz
  have hts := atoms_spec (ws := Cond.code yX9_put cX9_put 7 (some .boolean) :: tb0) B.pre
  have hC : Cx RX9 cX9_put 7 (some .boolean) p s m _ meth c := ⟨B.exec, B.bytes, hml, findClass_of_methodNamed B.named, fun w q => hts w (List.mem_cons_of_mem _ q), B.returns, B.notSynchronized⟩
  have hw := Wd.entry hP hK hD0 hT hX
  have hl := lv_entry ([.ref a0, .int x1, .int x2, .long x3]) (n := 7) (Nat.le_of_ble_eq_true rfl)
  rw [lg_entry_eq]
  exact w_X9_put_0 hC ⟨Nat.le_refl _, Nat.le_refl _⟩ o0 a0 x1 x2 x3 D _ _ _ hi0 hw hl h
set_option maxHeartbeats 4000000 in
set_option maxRecDepth 100000 in
theorem w_X9_both_193 {r : Int32} {D' : dt} (hC : Cx RX9 cX9_both 12 (some .boolean) p s m args meth c) (hR : 4 ≤ R.frames ∧ 96 ≤ R.locals) : ∀ (o0 a0 : Nat) (x1 : Int32) (x5 : Int64) (x9 : Int32) (os0 as0 : Nat) (xs1 : Int64) (xs2 : Int32) (xs3 : Int64) (D : dt) (H : Heap) (locs : List Loc) (ls : Array Slot), Is S ad o0 a0 8 → Is S ad os0 as0 8 → Wd G cA S D ad A s H locs → lv_has ls 12 [(0, .ref a0), (1, .int x1), (5, .long x5), (9, .int x9)] → f_X9_both_193 S o0 x1 x5 x9 os0 xs1 xs2 xs3 D = some (r, D') → W p l e R s m args below meth c H locs 0 0 (MQ below (Qn (some (.int r)) True (wpost G cA S D' ad A) A) args s 0 0 A) (F0 m 193 ls [.long xs3, .int xs2, .long xs1, .ref as0]) := by
  obtain ⟨hx, hb, -⟩ := id hC
  intro o0 a0 x1 x5 x9 os0 as0 xs1 xs2 xs3 D H locs ls hi0 his0 hw hl h
  unfold f_X9_both_193 at h
  obtain ⟨_, D82, hq81, h⟩ := cq_i h
  refine r_cV (st' := []) [.long xs1, .int xs2, .long xs3] [] hC hw kc_8 his0 (k_X9_setNumber _ his0 hq81) mk_X9_setNumber lk_1393 ⟨Nat.le_trans (by decide) hR.1, Nat.le_trans (by decide) hR.2⟩ ⟨Nat.zero_le _, Nat.zero_le _⟩ rfl hl.1 rfl rfl (Nat.le_of_ble_eq_true rfl) dX9_both_193 (fun hP H locs hw => ?_)
  refine lv_iload hx hb dX9_both_196 (lv_at hl 3 rfl) ?_
  refine lv_iconst (v := 1) hx hb dX9_both_198 (by decide) ?_
  refine lv_iand hx hb dX9_both_199 ?_
  refine lv_iconst (v := 1) hx hb dX9_both_200 (by decide) ?_
  refine lv_icmp_ne (tgt := 217) hx hb dX9_both_201 (by decide) (fun c83 => ?_) (fun c83 => ?_)
  · have h := i_no c83 h
    refine lv_iconst (v := 1) hx hb dX9_both_217 (by decide) ?_
    cases h
    exact r_zret hC hw (Or.inr rfl) dX9_both_218
  · have h := i_yes c83 h
    refine lv_aload_n hx hb dX9_both_204 rfl (lv_at hl 0 rfl) ?_
    obtain ⟨o84, ho87, h⟩ := rq_i h
    refine r_getR hC hw kc_8 hi0 21 rfl lk_1090 dX9_both_205 rfl ho87 (fun a85 hi86 => ?_)
    refine lv_aload_n hx hb dX9_both_208 rfl (lv_at hl 0 rfl) ?_
    obtain ⟨o88, ho91, h⟩ := rq_i h
    refine r_getR hC hw kc_8 hi0 3 rfl lk_1072 dX9_both_209 rfl ho91 (fun a89 hi90 => ?_)
    refine lv_iload_n hx hb dX9_both_212 rfl (lv_at hl 1 rfl) ?_
    obtain ⟨hn92, h⟩ := ix_i h
    refine r_iald hC hw hi90 hn92 dX9_both_213 ?_
    refine lv_lload hx hb dX9_both_214 (lv_at hl 2 rfl) ?_
    obtain ⟨hn93, h⟩ := ix_i h
    refine r_las hC hw hi86 hn93 dX9_both_216 (fun D94 eD94 H locs hw => ?_)
    have h := nm_i h D94 eD94
    refine lv_iconst (v := 1) hx hb dX9_both_217 (by decide) ?_
    cases h
    exact r_zret hC hw (Or.inr rfl) dX9_both_218
set_option maxHeartbeats 4000000 in
set_option maxRecDepth 100000 in
theorem w_X9_both_112 {r : Int32} {D' : dt} (hC : Cx RX9 cX9_both 12 (some .boolean) p s m args meth c) (hR : 4 ≤ R.frames ∧ 96 ≤ R.locals) : ∀ (o0 a0 : Nat) (x5 : Int64) (D : dt) (H : Heap) (locs : List Loc) (ls : Array Slot), Is S ad o0 a0 8 → Wd G cA S D ad A s H locs → lv_has ls 12 [(0, .ref a0), (5, .long x5)] → f_X9_both_112 S o0 x5 D = some (r, D') → W p l e R s m args below meth c H locs 0 0 (MQ below (Qn (some (.int r)) True (wpost G cA S D' ad A) A) args s 0 0 A) (F0 m 112 ls []) := by
  obtain ⟨hx, hb, -⟩ := id hC
  intro o0 a0 x5 D H locs ls hi0 hw hl h
  unfold f_X9_both_112 at h
  refine lv_aload_n hx hb dX9_both_112 rfl (lv_at hl 0 rfl) ?_
  obtain ⟨o95, ho98, h⟩ := rq_i h
  refine r_getR hC hw kc_8 hi0 21 rfl lk_1090 dX9_both_113 rfl ho98 (fun a96 hi97 => ?_)
  refine lv_iconst (v := 0) hx hb dX9_both_116 (by decide) ?_
  refine lv_lload hx hb dX9_both_117 (lv_at hl 1 rfl) ?_
  obtain ⟨hn99, h⟩ := ix_i h
  refine r_las hC hw hi97 hn99 dX9_both_119 (fun D100 eD100 H locs hw => ?_)
  have h := nm_i h D100 eD100
  refine lv_iconst (v := 1) hx hb dX9_both_120 (by decide) ?_
  cases h
  exact r_zret hC hw (Or.inr rfl) dX9_both_121
set_option maxHeartbeats 4000000 in
set_option maxRecDepth 100000 in
theorem w_X9_both_94 {r : Int32} {D' : dt} (hC : Cx RX9 cX9_both 12 (some .boolean) p s m args meth c) (hR : 4 ≤ R.frames ∧ 96 ≤ R.locals) : ∀ (o0 a0 : Nat) (x2 : Int32) (x3 : Int64) (x5 : Int64) (x7 : Int64) (xs0 : Int64) (D : dt) (H : Heap) (locs : List Loc) (ls : Array Slot), Is S ad o0 a0 8 → Wd G cA S D ad A s H locs → lv_has ls 12 [(0, .ref a0), (2, .int x2), (3, .long x3), (5, .long x5), (7, .long x7)] → f_X9_both_94 S o0 x2 x3 x5 x7 xs0 D = some (r, D') → W p l e R s m args below meth c H locs 0 0 (MQ below (Qn (some (.int r)) True (wpost G cA S D' ad A) A) args s 0 0 A) (F0 m 94 ls [.long xs0]) := by
  obtain ⟨hx, hb, -⟩ := id hC
  intro o0 a0 x2 x3 x5 x7 xs0 D H locs ls hi0 hw hl h
  unfold f_X9_both_94 at h
  refine lv_lstore (lv' := [(10, .long xs0), (0, .ref a0), (2, .int x2), (3, .long x3), (5, .long x5), (7, .long x7)]) hx hb dX9_both_94 hl (by decide) rfl (fun ls hl => ?_)
  refine lv_lload hx hb dX9_both_96 (lv_at hl 0 rfl) ?_
  refine lv_lload hx hb dX9_both_98 (lv_at hl 4 rfl) ?_
  refine W.lcmp hx hb dX9_both_100 ?_
  refine lv_if_ne (tgt := 112) hx hb dX9_both_101 (by decide) (fun c101 => ?_) (fun c101 => ?_)
  · have h := i_no c101 h
    exact w_X9_both_112 hC hR o0 a0 x5 _ _ _ _ hi0 hw (lv_sub hl [1, 4] rfl) h
  · have h := i_yes c101 h
    refine lv_aload_n hx hb dX9_both_104 rfl (lv_at hl 1 rfl) ?_
    refine lv_lload_n hx hb dX9_both_105 rfl (lv_at hl 3 rfl) ?_
    refine lv_iload_n hx hb dX9_both_106 rfl (lv_at hl 2 rfl) ?_
    refine lv_lload hx hb dX9_both_107 (lv_at hl 5 rfl) ?_
    obtain ⟨_, D103, hq102, h⟩ := cq_i h
    refine r_cV (st' := []) [.long x3, .int x2, .long x7] [] hC hw kc_8 hi0 (k_X9_setNumber _ hi0 hq102) mk_X9_setNumber lk_1393 ⟨Nat.le_trans (by decide) hR.1, Nat.le_trans (by decide) hR.2⟩ ⟨Nat.zero_le _, Nat.zero_le _⟩ rfl hl.1 rfl rfl (Nat.le_of_ble_eq_true rfl) dX9_both_109 (fun hP H locs hw => ?_)
    exact w_X9_both_112 hC hR o0 a0 x5 _ _ _ _ hi0 hw (lv_sub hl [1, 4] rfl) h
set_option maxHeartbeats 4000000 in
set_option maxRecDepth 100000 in
theorem w_X9_both_0 {r : Int32} {D' : dt} (hC : Cx RX9 cX9_both 12 (some .boolean) p s m args meth c) (hR : 4 ≤ R.frames ∧ 96 ≤ R.locals) : ∀ (o0 a0 : Nat) (x1 : Int32) (x2 : Int32) (D : dt) (H : Heap) (locs : List Loc) (ls : Array Slot), Is S ad o0 a0 8 → Wd G cA S D ad A s H locs → lv_has ls 12 [(0, .ref a0), (1, .int x1), (2, .int x2)] → f_X9_both S o0 x1 x2 D = some (r, D') → W p l e R s m args below meth c H locs 0 0 (MQ below (Qn (some (.int r)) True (wpost G cA S D' ad A) A) args s 0 0 A) (F0 m 0 ls []) := by
  obtain ⟨hx, hb, -⟩ := id hC
  intro o0 a0 x1 x2 D H locs ls hi0 hw hl h
  unfold f_X9_both at h
  refine lv_aload_n hx hb dX9_both_0 rfl (lv_at hl 0 rfl) ?_
  obtain ⟨o104, ho107, h⟩ := rq_i h
  refine r_getR hC hw kc_8 hi0 21 rfl lk_1090 dX9_both_1 rfl ho107 (fun a105 hi106 => ?_)
  refine lv_aload_n hx hb dX9_both_4 rfl (lv_at hl 0 rfl) ?_
  obtain ⟨o108, ho111, h⟩ := rq_i h
  refine r_getR hC hw kc_8 hi0 2 rfl lk_1071 dX9_both_5 rfl ho111 (fun a109 hi110 => ?_)
  refine lv_iload_n hx hb dX9_both_8 rfl (lv_at hl 1 rfl) ?_
  obtain ⟨hn112, h⟩ := ix_i h
  refine r_iald hC hw hi110 hn112 dX9_both_9 ?_
  obtain ⟨hn113, h⟩ := ix_i h
  refine r_lald hC hw hi106 hn113 dX9_both_10 ?_
  refine lv_aload_n hx hb dX9_both_11 rfl (lv_at hl 0 rfl) ?_
  obtain ⟨o114, ho117, h⟩ := rq_i h
  refine r_getR hC hw kc_8 hi0 4 rfl lk_1073 dX9_both_12 rfl ho117 (fun a115 hi116 => ?_)
  refine lv_iload_n hx hb dX9_both_15 rfl (lv_at hl 1 rfl) ?_
  obtain ⟨hn118, h⟩ := ix_i h
  refine r_iald hC hw hi116 hn118 dX9_both_16 ?_
  refine lv_i2l (v := (gI D o114 x1.toNatClampNeg).toInt64) hx hb dX9_both_17 rfl ?_
  refine lv_ladd hx hb dX9_both_18 ?_
  refine lv_topl (fun y119 ey119 => ?_)
  have h := nm_i h y119 ey119
  refine lv_lstore_n (lv' := [(3, .long y119), (0, .ref a0), (1, .int x1), (2, .int x2)]) hx hb dX9_both_19 rfl hl (by decide) rfl (fun ls hl => ?_)
  refine lv_aload_n hx hb dX9_both_20 rfl (lv_at hl 1 rfl) ?_
  refine lv_lload_n hx hb dX9_both_21 rfl (lv_at hl 0 rfl) ?_
  refine lv_iload_n hx hb dX9_both_22 rfl (lv_at hl 3 rfl) ?_
  refine lv_iconst (v := 1) hx hb dX9_both_23 (by decide) ?_
  obtain ⟨r121, D122, hq120, h⟩ := cq_i h
  refine r_cV (st' := [.int r121]) [.long y119, .int x2, .int (1 : Int32)] [] hC hw kc_8 hi0 (k_X9_isThere _ hi0 hq120) mk_X9_isThere lk_1261 ⟨Nat.le_trans (by decide) hR.1, Nat.le_trans (by decide) hR.2⟩ ⟨Nat.zero_le _, Nat.zero_le _⟩ rfl hl.1 rfl rfl (Nat.le_of_ble_eq_true rfl) dX9_both_24 (fun hP H locs hw => ?_)
  refine lv_if_ne (tgt := 32) hx hb dX9_both_27 (by decide) (fun c123 => ?_) (fun c123 => ?_)
  · have h := i_no c123 h
    refine lv_aload_n hx hb dX9_both_32 rfl (lv_at hl 1 rfl) ?_
    refine lv_lload_n hx hb dX9_both_33 rfl (lv_at hl 0 rfl) ?_
    refine lv_iload_n hx hb dX9_both_34 rfl (lv_at hl 3 rfl) ?_
    obtain ⟨r125, D126, hq124, h⟩ := cq_i h
    refine r_cV (st' := [.long r125]) [.long y119, .int x2] [] hC hw kc_8 hi0 (k_X9_numberAt _ hi0 hq124) mk_X9_numberAt lk_1385 ⟨Nat.le_trans (by decide) hR.1, Nat.le_trans (by decide) hR.2⟩ ⟨Nat.zero_le _, Nat.zero_le _⟩ rfl hl.1 rfl rfl (Nat.le_of_ble_eq_true rfl) dX9_both_35 (fun hP H locs hw => ?_)
    refine lv_lstore (lv' := [(5, .long r125), (3, .long y119), (0, .ref a0), (1, .int x1), (2, .int x2)]) hx hb dX9_both_38 hl (by decide) rfl (fun ls hl => ?_)
    refine lv_aload_n hx hb dX9_both_40 rfl (lv_at hl 2 rfl) ?_
    obtain ⟨o127, ho130, h⟩ := rq_i h
    refine r_getR hC hw kc_8 hi0 21 rfl lk_1090 dX9_both_41 rfl ho130 (fun a128 hi129 => ?_)
    refine lv_aload_n hx hb dX9_both_44 rfl (lv_at hl 2 rfl) ?_
    obtain ⟨o131, ho134, h⟩ := rq_i h
    refine r_getR hC hw kc_8 hi0 3 rfl lk_1072 dX9_both_45 rfl ho134 (fun a132 hi133 => ?_)
    refine lv_iload_n hx hb dX9_both_48 rfl (lv_at hl 3 rfl) ?_
    obtain ⟨hn135, h⟩ := ix_i h
    refine r_iald hC hw hi133 hn135 dX9_both_49 ?_
    obtain ⟨hn136, h⟩ := ix_i h
    refine r_lald hC hw hi129 hn136 dX9_both_50 ?_
    refine lv_topl (fun y137 ey137 => ?_)
    have h := nm_i h y137 ey137
    refine lv_lstore (lv' := [(7, .long y137), (5, .long r125), (3, .long y119), (0, .ref a0), (1, .int x1), (2, .int x2)]) hx hb dX9_both_51 hl (by decide) rfl (fun ls hl => ?_)
    refine lv_aload_n hx hb dX9_both_53 rfl (lv_at hl 3 rfl) ?_
    obtain ⟨o138, ho141, h⟩ := rq_i h
    refine r_getR hC hw kc_8 hi0 5 rfl lk_1074 dX9_both_54 rfl ho141 (fun a139 hi140 => ?_)
    refine lv_iload_n hx hb dX9_both_57 rfl (lv_at hl 4 rfl) ?_
    obtain ⟨hn142, h⟩ := ix_i h
    refine r_iald hC hw hi140 hn142 dX9_both_58 ?_
    refine lv_topi (fun y143 ey143 => ?_)
    have h := nm_i h y143 ey143
    refine lv_istore (lv' := [(9, .int y143), (7, .long y137), (5, .long r125), (3, .long y119), (0, .ref a0), (1, .int x1), (2, .int x2)]) hx hb dX9_both_59 hl (by decide) rfl (fun ls hl => ?_)
    refine lv_iload hx hb dX9_both_61 (lv_at hl 0 rfl) ?_
    refine lv_sipush (v := 241) hx hb dX9_both_63 (by decide) ?_
    refine lv_icmp_ne (tgt := 122) hx hb dX9_both_66 (by decide) (fun c144 => ?_) (fun c144 => ?_)
    · have h := i_no c144 h
      refine lv_iload hx hb dX9_both_122 (lv_at hl 0 rfl) ?_
      refine lv_bipush (v := (-2)) hx hb dX9_both_124 (by decide) ?_
      refine lv_iand hx hb dX9_both_126 ?_
      refine lv_topi (fun y145 ey145 => ?_)
      have h := nm_i h y145 ey145
      refine lv_istore (lv' := [(10, .int y145), (9, .int y143), (7, .long y137), (5, .long r125), (3, .long y119), (0, .ref a0), (1, .int x1), (2, .int x2)]) hx hb dX9_both_127 hl (by decide) rfl (fun ls hl => ?_)
      refine lv_aload_n hx hb dX9_both_129 rfl (lv_at hl 5 rfl) ?_
      refine lv_lload_n hx hb dX9_both_130 rfl (lv_at hl 4 rfl) ?_
      refine lv_iload_n hx hb dX9_both_131 rfl (lv_at hl 7 rfl) ?_
      refine lv_iload hx hb dX9_both_132 (lv_at hl 0 rfl) ?_
      refine lv_if_ne (tgt := 145) hx hb dX9_both_134 (by decide) (fun c146 => ?_) (fun c146 => ?_)
      · have h := i_no c146 h
        refine lv_iload hx hb dX9_both_145 (lv_at hl 0 rfl) ?_
        refine lv_bipush (v := 64) hx hb dX9_both_147 (by decide) ?_
        refine lv_icmp_ne (tgt := 160) hx hb dX9_both_149 (by decide) (fun c147 => ?_) (fun c147 => ?_)
        · have h := i_no c147 h
          refine lv_iload hx hb dX9_both_160 (lv_at hl 0 rfl) ?_
          refine lv_bipush (v := 80) hx hb dX9_both_162 (by decide) ?_
          refine lv_icmp_ne (tgt := 175) hx hb dX9_both_164 (by decide) (fun c148 => ?_) (fun c148 => ?_)
          · have h := i_no c148 h
            refine lv_iload hx hb dX9_both_175 (lv_at hl 0 rfl) ?_
            refine lv_sipush (v := 160) hx hb dX9_both_177 (by decide) ?_
            refine lv_icmp_ne (tgt := 191) hx hb dX9_both_180 (by decide) (fun c149 => ?_) (fun c149 => ?_)
            · have h := i_no c149 h
              refine lv_lload hx hb dX9_both_191 (lv_at hl 2 rfl) ?_
              exact w_X9_both_193 hC hR o0 a0 x1 r125 y143 o0 a0 y119 x2 y137 _ _ _ _ hi0 hi0 hw (lv_sub hl [5, 6, 3, 1] rfl) h
            · have h := i_yes c149 h
              refine lv_lload hx hb dX9_both_183 (lv_at hl 3 rfl) ?_
              refine lv_lload hx hb dX9_both_185 (lv_at hl 2 rfl) ?_
              refine lv_lxor hx hb dX9_both_187 ?_
              refine lv_goto (tgt := 193) hx hb dX9_both_188 (by decide) ?_
              exact w_X9_both_193 hC hR o0 a0 x1 r125 y143 o0 a0 y119 x2 (r125 ^^^ y137) _ _ _ _ hi0 hi0 hw (lv_sub hl [5, 6, 3, 1] rfl) h
          · have h := i_yes c148 h
            refine lv_lload hx hb dX9_both_167 (lv_at hl 3 rfl) ?_
            refine lv_lload hx hb dX9_both_169 (lv_at hl 2 rfl) ?_
            refine lv_land hx hb dX9_both_171 ?_
            refine lv_goto (tgt := 193) hx hb dX9_both_172 (by decide) ?_
            exact w_X9_both_193 hC hR o0 a0 x1 r125 y143 o0 a0 y119 x2 (r125 &&& y137) _ _ _ _ hi0 hi0 hw (lv_sub hl [5, 6, 3, 1] rfl) h
        · have h := i_yes c147 h
          refine lv_lload hx hb dX9_both_152 (lv_at hl 3 rfl) ?_
          refine lv_lload hx hb dX9_both_154 (lv_at hl 2 rfl) ?_
          refine lv_lor hx hb dX9_both_156 ?_
          refine lv_goto (tgt := 193) hx hb dX9_both_157 (by decide) ?_
          exact w_X9_both_193 hC hR o0 a0 x1 r125 y143 o0 a0 y119 x2 (r125 ||| y137) _ _ _ _ hi0 hi0 hw (lv_sub hl [5, 6, 3, 1] rfl) h
      · have h := i_yes c146 h
        refine lv_lload hx hb dX9_both_137 (lv_at hl 3 rfl) ?_
        refine lv_lload hx hb dX9_both_139 (lv_at hl 2 rfl) ?_
        refine lv_ladd hx hb dX9_both_141 ?_
        refine lv_goto (tgt := 193) hx hb dX9_both_142 (by decide) ?_
        exact w_X9_both_193 hC hR o0 a0 x1 r125 y143 o0 a0 y119 x2 (r125 + y137) _ _ _ _ hi0 hi0 hw (lv_sub hl [5, 6, 3, 1] rfl) h
    · have h := i_yes c144 h
      refine lv_iload_n hx hb dX9_both_69 rfl (lv_at hl 6 rfl) ?_
      refine lv_bipush (v := 8) hx hb dX9_both_70 (by decide) ?_
      refine lv_icmp_ne (tgt := 84) hx hb dX9_both_72 (by decide) (fun c150 => ?_) (fun c150 => ?_)
      · have h := i_no c150 h
        refine lv_aload_n hx hb dX9_both_84 rfl (lv_at hl 4 rfl) ?_
        obtain ⟨o151, ho154, h⟩ := rq_i h
        refine r_getR hC hw kc_8 hi0 21 rfl lk_1090 dX9_both_85 rfl ho154 (fun a152 hi153 => ?_)
        refine lv_iconst (v := 0) hx hb dX9_both_88 (by decide) ?_
        obtain ⟨hn155, h⟩ := ix_i h
        refine r_lald hC hw hi153 hn155 dX9_both_89 ?_
        refine lv_ldc2 (v := 4294967295) hx hb hC.2.2.2.1 (hC.2.2.2.2.1 _ lk_1344) dX9_both_90 ?_
        refine lv_land hx hb dX9_both_93 ?_
        exact w_X9_both_94 hC hR o0 a0 x2 y119 r125 y137 ((gL D126 o151 (0 : Int32).toNatClampNeg) &&& (4294967295 : Int64)) _ _ _ _ hi0 hw (lv_sub hl [4, 6, 3, 2, 1] rfl) h
      · have h := i_yes c150 h
        refine lv_aload_n hx hb dX9_both_75 rfl (lv_at hl 4 rfl) ?_
        obtain ⟨o156, ho159, h⟩ := rq_i h
        refine r_getR hC hw kc_8 hi0 21 rfl lk_1090 dX9_both_76 rfl ho159 (fun a157 hi158 => ?_)
        refine lv_iconst (v := 0) hx hb dX9_both_79 (by decide) ?_
        obtain ⟨hn160, h⟩ := ix_i h
        refine r_lald hC hw hi158 hn160 dX9_both_80 ?_
        refine lv_goto (tgt := 94) hx hb dX9_both_81 (by decide) ?_
        exact w_X9_both_94 hC hR o0 a0 x2 y119 r125 y137 (gL D126 o156 (0 : Int32).toNatClampNeg) _ _ _ _ hi0 hw (lv_sub hl [4, 6, 3, 2, 1] rfl) h
  · have h := i_yes c123 h
    refine lv_iconst (v := 0) hx hb dX9_both_30 (by decide) ?_
    cases h
    exact r_zret hC hw (Or.inl rfl) dX9_both_31
set_option maxHeartbeats 4000000 in
set_option maxRecDepth 100000 in
theorem k_X9_both {l : Launch} {G : va_G} {cA : Nat → ClassId} {S : sh} {D D' : dt} {ad : Nat → Nat} (sz : Nat) {o0 a0 : Nat} {x1 : Int32} {x2 : Int32} {r : Int32} (hi0 : Is S ad o0 a0 8) (h : f_X9_both S o0 x1 x2 D = some (r, D')) : Co l yX9_both (Cond.code yX9_both cX9_both 12 (some .boolean) :: tb0) 4 96 [.ref a0, .int x1, .int x2] G cA S D ad sz (some (.int r)) True D' := by
  refine Met.ofW (cc := cX9_both) (maxL := 12) (ret := (some .boolean)) (by decide) rfl ?_
  intro p e s m args below meth c s₁ B hml hv
  obtain ⟨rfl, hsz, hP, hK, hD0, hT, hX⟩ := hv
  subst hsz
  have hts := atoms_spec (ws := Cond.code yX9_both cX9_both 12 (some .boolean) :: tb0) B.pre
  have hC : Cx RX9 cX9_both 12 (some .boolean) p s m _ meth c := ⟨B.exec, B.bytes, hml, findClass_of_methodNamed B.named, fun w q => hts w (List.mem_cons_of_mem _ q), B.returns, B.notSynchronized⟩
  have hw := Wd.entry hP hK hD0 hT hX
  have hl := lv_entry ([.ref a0, .int x1, .int x2]) (n := 12) (Nat.le_of_ble_eq_true rfl)
  rw [lg_entry_eq]
  exact w_X9_both_0 hC ⟨Nat.le_refl _, Nat.le_refl _⟩ o0 a0 x1 x2 D _ _ _ hi0 hw hl h
set_option maxHeartbeats 4000000 in
set_option maxRecDepth 100000 in
theorem w_X9_wide_115 {r : Int32} {D' : dt} (hC : Cx RX9 cX9_wide 2 (some .int) p s m args meth c) (hR : 1 ≤ R.frames ∧ 25 ≤ R.locals) : ∀ (o0 a0 : Nat) (x1 : Int32) (os0 as0 : Nat) (xs1 : Int32) (xs2 : Int64) (D : dt) (H : Heap) (locs : List Loc) (ls : Array Slot), Is S ad o0 a0 8 → Is S ad os0 as0 101 → Wd G cA S D ad A s H locs → lv_has ls 2 [(0, .ref a0), (1, .int x1)] → f_X9_wide_115 S o0 x1 os0 xs1 xs2 D = some (r, D') → W p l e R s m args below meth c H locs 0 0 (MQ below (Qn (some (.int r)) True (wpost G cA S D' ad A) A) args s 0 0 A) (F0 m 115 ls [.long xs2, .int xs1, .ref as0]) := by
  obtain ⟨hx, hb, -⟩ := id hC
  intro o0 a0 x1 os0 as0 xs1 xs2 D H locs ls hi0 his0 hw hl h
  unfold f_X9_wide_115 at h
  obtain ⟨hn53, h⟩ := ix_i h
  refine r_las hC hw his0 hn53 dX9_wide_115 (fun D54 eD54 H locs hw => ?_)
  have h := nm_i h D54 eD54
  refine lv_aload_n hx hb dX9_wide_116 rfl (lv_at hl 0 rfl) ?_
  refine lv_iload_n hx hb dX9_wide_117 rfl (lv_at hl 1 rfl) ?_
  refine lv_iconst (v := 2) hx hb dX9_wide_118 (by decide) ?_
  refine lv_iadd hx hb dX9_wide_119 ?_
  refine r_pI hC hw kc_8 hi0 19 rfl lk_1088 rfl rfl rfl dX9_wide_120 (fun D55 eD55 H locs hw => ?_)
  have h := nm_i h D55 eD55
  refine lv_iconst (v := 0) hx hb dX9_wide_123 (by decide) ?_
  cases h
  exact r_iret hC hw dX9_wide_124
set_option maxHeartbeats 4000000 in
set_option maxRecDepth 100000 in
theorem w_X9_wide_57 {r : Int32} {D' : dt} (hC : Cx RX9 cX9_wide 2 (some .int) p s m args meth c) (hR : 1 ≤ R.frames ∧ 25 ≤ R.locals) : ∀ (o0 a0 : Nat) (x1 : Int32) (D : dt) (H : Heap) (locs : List Loc) (ls : Array Slot), Is S ad o0 a0 8 → Wd G cA S D ad A s H locs → lv_has ls 2 [(0, .ref a0), (1, .int x1)] → f_X9_wide_57 S o0 x1 D = some (r, D') → W p l e R s m args below meth c H locs 0 0 (MQ below (Qn (some (.int r)) True (wpost G cA S D' ad A) A) args s 0 0 A) (F0 m 57 ls []) := by
  obtain ⟨hx, hb, -⟩ := id hC
  intro o0 a0 x1 D H locs ls hi0 hw hl h
  unfold f_X9_wide_57 at h
  refine lv_aload_n hx hb dX9_wide_57 rfl (lv_at hl 0 rfl) ?_
  obtain ⟨o56, ho59, h⟩ := rq_i h
  refine r_getR hC hw kc_8 hi0 21 rfl lk_1090 dX9_wide_58 rfl ho59 (fun a57 hi58 => ?_)
  refine lv_aload_n hx hb dX9_wide_61 rfl (lv_at hl 0 rfl) ?_
  obtain ⟨o60, ho63, h⟩ := rq_i h
  refine r_getR hC hw kc_8 hi0 2 rfl lk_1071 dX9_wide_62 rfl ho63 (fun a61 hi62 => ?_)
  refine lv_iload_n hx hb dX9_wide_65 rfl (lv_at hl 1 rfl) ?_
  obtain ⟨hn64, h⟩ := ix_i h
  refine r_iald hC hw hi62 hn64 dX9_wide_66 ?_
  refine lv_aload_n hx hb dX9_wide_67 rfl (lv_at hl 0 rfl) ?_
  obtain ⟨o65, ho68, h⟩ := rq_i h
  refine r_getR hC hw kc_8 hi0 3 rfl lk_1072 dX9_wide_68 rfl ho68 (fun a66 hi67 => ?_)
  refine lv_iload_n hx hb dX9_wide_71 rfl (lv_at hl 1 rfl) ?_
  obtain ⟨hn69, h⟩ := ix_i h
  refine r_iald hC hw hi67 hn69 dX9_wide_72 ?_
  refine lv_iconst (v := 1) hx hb dX9_wide_73 (by decide) ?_
  refine lv_icmp_ne (tgt := 91) hx hb dX9_wide_74 (by decide) (fun c70 => ?_) (fun c70 => ?_)
  · have h := i_no c70 h
    refine lv_aload_n hx hb dX9_wide_91 rfl (lv_at hl 0 rfl) ?_
    obtain ⟨o71, ho74, h⟩ := rq_i h
    refine r_getR hC hw kc_8 hi0 5 rfl lk_1074 dX9_wide_92 rfl ho74 (fun a72 hi73 => ?_)
    refine lv_iload_n hx hb dX9_wide_95 rfl (lv_at hl 1 rfl) ?_
    obtain ⟨hn75, h⟩ := ix_i h
    refine r_iald hC hw hi73 hn75 dX9_wide_96 ?_
    refine lv_i2l (v := (gI D o71 x1.toNatClampNeg).toInt64) hx hb dX9_wide_97 rfl ?_
    refine lv_ldc2 (v := 4294967295) hx hb hC.2.2.2.1 (hC.2.2.2.2.1 _ lk_1344) dX9_wide_98 ?_
    refine lv_land hx hb dX9_wide_101 ?_
    refine lv_aload_n hx hb dX9_wide_102 rfl (lv_at hl 0 rfl) ?_
    obtain ⟨o76, ho79, h⟩ := rq_i h
    refine r_getR hC hw kc_8 hi0 5 rfl lk_1074 dX9_wide_103 rfl ho79 (fun a77 hi78 => ?_)
    refine lv_iload_n hx hb dX9_wide_106 rfl (lv_at hl 1 rfl) ?_
    refine lv_iconst (v := 1) hx hb dX9_wide_107 (by decide) ?_
    refine lv_iadd hx hb dX9_wide_108 ?_
    obtain ⟨hn80, h⟩ := ix_i h
    refine r_iald hC hw hi78 hn80 dX9_wide_109 ?_
    refine lv_i2l (v := (gI D o76 (x1 + (1 : Int32)).toNatClampNeg).toInt64) hx hb dX9_wide_110 rfl ?_
    refine lv_bipush (v := 32) hx hb dX9_wide_111 (by decide) ?_
    refine lv_lshl (v := j_lshl ((gI D o76 (x1 + (1 : Int32)).toNatClampNeg).toInt64) (32 : Int32)) hx hb dX9_wide_113 rfl ?_
    refine lv_lor hx hb dX9_wide_114 ?_
    exact w_X9_wide_115 hC hR o0 a0 x1 o56 a57 (gI D o60 x1.toNatClampNeg) ((((gI D o71 x1.toNatClampNeg).toInt64) &&& (4294967295 : Int64)) ||| (j_lshl ((gI D o76 (x1 + (1 : Int32)).toNatClampNeg).toInt64) (32 : Int32))) _ _ _ _ hi0 hi58 hw (lv_sub hl [0, 1] rfl) h
  · have h := i_yes c70 h
    refine lv_ldc2 (v := 17179869184) hx hb hC.2.2.2.1 (hC.2.2.2.2.1 _ lk_1371) dX9_wide_77 ?_
    refine lv_aload_n hx hb dX9_wide_80 rfl (lv_at hl 0 rfl) ?_
    obtain ⟨o81, ho84, h⟩ := rq_i h
    refine r_getR hC hw kc_8 hi0 5 rfl lk_1074 dX9_wide_81 rfl ho84 (fun a82 hi83 => ?_)
    refine lv_iload_n hx hb dX9_wide_84 rfl (lv_at hl 1 rfl) ?_
    obtain ⟨hn85, h⟩ := ix_i h
    refine r_iald hC hw hi83 hn85 dX9_wide_85 ?_
    refine lv_i2l (v := (gI D o81 x1.toNatClampNeg).toInt64) hx hb dX9_wide_86 rfl ?_
    refine lv_ladd hx hb dX9_wide_87 ?_
    refine lv_goto (tgt := 115) hx hb dX9_wide_88 (by decide) ?_
    exact w_X9_wide_115 hC hR o0 a0 x1 o56 a57 (gI D o60 x1.toNatClampNeg) ((17179869184 : Int64) + ((gI D o81 x1.toNatClampNeg).toInt64)) _ _ _ _ hi0 hi58 hw (lv_sub hl [0, 1] rfl) h
set_option maxHeartbeats 4000000 in
set_option maxRecDepth 100000 in
theorem w_X9_wide_0 {r : Int32} {D' : dt} (hC : Cx RX9 cX9_wide 2 (some .int) p s m args meth c) (hR : 1 ≤ R.frames ∧ 25 ≤ R.locals) : ∀ (o0 a0 : Nat) (x1 : Int32) (D : dt) (H : Heap) (locs : List Loc) (ls : Array Slot), Is S ad o0 a0 8 → Wd G cA S D ad A s H locs → lv_has ls 2 [(0, .ref a0), (1, .int x1)] → f_X9_wide S o0 x1 D = some (r, D') → W p l e R s m args below meth c H locs 0 0 (MQ below (Qn (some (.int r)) True (wpost G cA S D' ad A) A) args s 0 0 A) (F0 m 0 ls []) := by
  obtain ⟨hx, hb, -⟩ := id hC
  intro o0 a0 x1 D H locs ls hi0 hw hl h
  unfold f_X9_wide at h
  refine lv_iload_n hx hb dX9_wide_0 rfl (lv_at hl 1 rfl) ?_
  refine lv_iconst (v := 1) hx hb dX9_wide_1 (by decide) ?_
  refine lv_iadd hx hb dX9_wide_2 ?_
  refine lv_aload_n hx hb dX9_wide_3 rfl (lv_at hl 0 rfl) ?_
  refine r_gI hC hw kc_8 hi0 0 rfl lk_1069 dX9_wide_4 ?_
  refine lv_icmp_ne (tgt := 12) hx hb dX9_wide_7 (by decide) (fun c86 => ?_) (fun c86 => ?_)
  · have h := i_no c86 h
    refine lv_aload_n hx hb dX9_wide_12 rfl (lv_at hl 0 rfl) ?_
    refine lv_iload_n hx hb dX9_wide_13 rfl (lv_at hl 1 rfl) ?_
    refine lv_iconst (v := 1) hx hb dX9_wide_14 (by decide) ?_
    refine lv_iadd hx hb dX9_wide_15 ?_
    obtain ⟨r88, D89, hq87, h⟩ := cq_i h
    refine r_cV (st' := [.int r88]) [.int (x1 + (1 : Int32))] [] hC hw kc_8 hi0 (k_X9_isSecond _ hi0 hq87) mk_X9_isSecond lk_1409 ⟨Nat.le_trans (by decide) hR.1, Nat.le_trans (by decide) hR.2⟩ ⟨Nat.zero_le _, Nat.zero_le _⟩ rfl hl.1 rfl rfl (Nat.le_of_ble_eq_true rfl) dX9_wide_16 (fun hP H locs hw => ?_)
    refine lv_if_ne (tgt := 24) hx hb dX9_wide_19 (by decide) (fun c90 => ?_) (fun c90 => ?_)
    · have h := i_no c90 h
      refine lv_aload_n hx hb dX9_wide_24 rfl (lv_at hl 0 rfl) ?_
      obtain ⟨o91, ho94, h⟩ := rq_i h
      refine r_getR hC hw kc_8 hi0 3 rfl lk_1072 dX9_wide_25 rfl ho94 (fun a92 hi93 => ?_)
      refine lv_iload_n hx hb dX9_wide_28 rfl (lv_at hl 1 rfl) ?_
      obtain ⟨hn95, h⟩ := ix_i h
      refine r_iald hC hw hi93 hn95 dX9_wide_29 ?_
      refine lv_iconst (v := 1) hx hb dX9_wide_30 (by decide) ?_
      refine lv_icmp_ne (tgt := 57) hx hb dX9_wide_31 (by decide) (fun c96 => ?_) (fun c96 => ?_)
      · have h := i_no c96 h
        exact w_X9_wide_57 hC hR o0 a0 x1 _ _ _ _ hi0 hw (lv_sub hl [0, 1] rfl) h
      · have h := i_yes c96 h
        refine lv_aload_n hx hb dX9_wide_34 rfl (lv_at hl 0 rfl) ?_
        obtain ⟨o97, ho100, h⟩ := rq_i h
        refine r_getR hC hw kc_8 hi0 5 rfl lk_1074 dX9_wide_35 rfl ho100 (fun a98 hi99 => ?_)
        refine lv_iload_n hx hb dX9_wide_38 rfl (lv_at hl 1 rfl) ?_
        obtain ⟨hn101, h⟩ := ix_i h
        refine r_iald hC hw hi99 hn101 dX9_wide_39 ?_
        refine lv_i2l (v := (gI D89 o97 x1.toNatClampNeg).toInt64) hx hb dX9_wide_40 rfl ?_
        refine lv_lconst (v := 0) hx hb dX9_wide_41 (by decide) ?_
        refine lv_aload_n hx hb dX9_wide_42 rfl (lv_at hl 0 rfl) ?_
        refine r_gI hC hw kc_8 hi0 9 rfl lk_1078 dX9_wide_43 ?_
        refine lv_iconst (v := 1) hx hb dX9_wide_46 (by decide) ?_
        refine lv_isub hx hb dX9_wide_47 ?_
        refine lv_i2l (v := ((gI D89 o0 9) - (1 : Int32)).toInt64) hx hb dX9_wide_48 rfl ?_
        obtain ⟨r103, hq102, h⟩ := pq_i h
        refine r_cS (st' := [.int r103]) [.long ((gI D89 o97 x1.toNatClampNeg).toInt64), .long (0 : Int64), .long (((gI D89 o0 9) - (1 : Int32)).toInt64)] [] hC hw (k_X9_in _ hq102) mk_X9_in lk_1240 ⟨Nat.le_trans (by decide) hR.1, Nat.le_trans (by decide) hR.2⟩ ⟨Nat.zero_le _, Nat.zero_le _⟩ rfl hl.1 rfl rfl (Nat.le_of_ble_eq_true rfl) dX9_wide_49 (fun hP H locs hw => ?_)
        refine lv_if_ne (tgt := 57) hx hb dX9_wide_52 (by decide) (fun c104 => ?_) (fun c104 => ?_)
        · have h := i_no c104 h
          exact w_X9_wide_57 hC hR o0 a0 x1 _ _ _ _ hi0 hw (lv_sub hl [0, 1] rfl) h
        · have h := i_yes c104 h
          refine lv_iconst (v := 4) hx hb dX9_wide_55 (by decide) ?_
          cases h
          exact r_iret hC hw dX9_wide_56
    · have h := i_yes c90 h
      refine lv_iconst (v := 3) hx hb dX9_wide_22 (by decide) ?_
      cases h
      exact r_iret hC hw dX9_wide_23
  · have h := i_yes c86 h
    refine lv_iconst (v := 5) hx hb dX9_wide_10 (by decide) ?_
    cases h
    exact r_iret hC hw dX9_wide_11
set_option maxHeartbeats 4000000 in
set_option maxRecDepth 100000 in
theorem k_X9_wide {l : Launch} {G : va_G} {cA : Nat → ClassId} {S : sh} {D D' : dt} {ad : Nat → Nat} (sz : Nat) {o0 a0 : Nat} {x1 : Int32} {r : Int32} (hi0 : Is S ad o0 a0 8) (h : f_X9_wide S o0 x1 D = some (r, D')) : Co l yX9_wide (Cond.code yX9_wide cX9_wide 2 (some .int) :: tb0) 1 25 [.ref a0, .int x1] G cA S D ad sz (some (.int r)) True D' := by
  refine Met.ofW (cc := cX9_wide) (maxL := 2) (ret := (some .int)) (by decide) rfl ?_
  intro p e s m args below meth c s₁ B hml hv
  obtain ⟨rfl, hsz, hP, hK, hD0, hT, hX⟩ := hv
  subst hsz
  have hts := atoms_spec (ws := Cond.code yX9_wide cX9_wide 2 (some .int) :: tb0) B.pre
  have hC : Cx RX9 cX9_wide 2 (some .int) p s m _ meth c := ⟨B.exec, B.bytes, hml, findClass_of_methodNamed B.named, fun w q => hts w (List.mem_cons_of_mem _ q), B.returns, B.notSynchronized⟩
  have hw := Wd.entry hP hK hD0 hT hX
  have hl := lv_entry ([.ref a0, .int x1]) (n := 2) (Nat.le_of_ble_eq_true rfl)
  rw [lg_entry_eq]
  exact w_X9_wide_0 hC ⟨Nat.le_refl _, Nat.le_refl _⟩ o0 a0 x1 D _ _ _ hi0 hw hl h
end

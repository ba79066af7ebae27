theorem dX9_take_0 : decode cX9_take 0 = .ok (.iconst 0, 1) := by decide +kernel
theorem dX9_take_1 : decode cX9_take 1 = .ok (.istore_n 2, 1) := by decide +kernel
theorem dX9_take_2 : decode cX9_take 2 = .ok (.iload_n 2, 1) := by decide +kernel
theorem dX9_take_3 : decode cX9_take 3 = .ok (.bipush 11, 2) := by decide +kernel
theorem dX9_take_5 : decode cX9_take 5 = .ok (.if_icmp .ge 76, 3) := by decide +kernel
theorem dX9_take_8 : decode cX9_take 8 = .ok (.bipush 11, 2) := by decide +kernel
theorem dX9_take_10 : decode cX9_take 10 = .ok (.iload_n 1, 1) := by decide +kernel
theorem dX9_take_11 : decode cX9_take 11 = .ok (.imul, 1) := by decide +kernel
theorem dX9_take_12 : decode cX9_take 12 = .ok (.iload_n 2, 1) := by decide +kernel
theorem dX9_take_13 : decode cX9_take 13 = .ok (.iadd, 1) := by decide +kernel
theorem dX9_take_14 : decode cX9_take 14 = .ok (.istore_n 3, 1) := by decide +kernel
theorem dX9_take_15 : decode cX9_take 15 = .ok (.aload_n 0, 1) := by decide +kernel
theorem dX9_take_16 : decode cX9_take 16 = .ok (.getfield 106, 3) := by decide +kernel
theorem dX9_take_19 : decode cX9_take 19 = .ok (.iload_n 2, 1) := by decide +kernel
theorem dX9_take_20 : decode cX9_take 20 = .ok (.aload_n 0, 1) := by decide +kernel
theorem dX9_take_21 : decode cX9_take 21 = .ok (.getfield 72, 3) := by decide +kernel
theorem dX9_take_24 : decode cX9_take 24 = .ok (.iload_n 3, 1) := by decide +kernel
theorem dX9_take_25 : decode cX9_take 25 = .ok (.iaload, 1) := by decide +kernel
theorem dX9_take_26 : decode cX9_take 26 = .ok (.iastore, 1) := by decide +kernel
theorem dX9_take_27 : decode cX9_take 27 = .ok (.aload_n 0, 1) := by decide +kernel
theorem dX9_take_28 : decode cX9_take 28 = .ok (.getfield 109, 3) := by decide +kernel
theorem dX9_take_31 : decode cX9_take 31 = .ok (.iload_n 2, 1) := by decide +kernel
theorem dX9_take_32 : decode cX9_take 32 = .ok (.aload_n 0, 1) := by decide +kernel
theorem dX9_take_33 : decode cX9_take 33 = .ok (.getfield 75, 3) := by decide +kernel
theorem dX9_take_36 : decode cX9_take 36 = .ok (.iload_n 3, 1) := by decide +kernel
theorem dX9_take_37 : decode cX9_take 37 = .ok (.laload, 1) := by decide +kernel
theorem dX9_take_38 : decode cX9_take 38 = .ok (.lastore, 1) := by decide +kernel
theorem dX9_take_39 : decode cX9_take 39 = .ok (.aload_n 0, 1) := by decide +kernel
theorem dX9_take_40 : decode cX9_take 40 = .ok (.getfield 112, 3) := by decide +kernel
theorem dX9_take_43 : decode cX9_take 43 = .ok (.iload_n 2, 1) := by decide +kernel
theorem dX9_take_44 : decode cX9_take 44 = .ok (.aload_n 0, 1) := by decide +kernel
theorem dX9_take_45 : decode cX9_take 45 = .ok (.getfield 78, 3) := by decide +kernel
theorem dX9_take_48 : decode cX9_take 48 = .ok (.iload_n 3, 1) := by decide +kernel
theorem dX9_take_49 : decode cX9_take 49 = .ok (.laload, 1) := by decide +kernel
theorem dX9_take_50 : decode cX9_take 50 = .ok (.lastore, 1) := by decide +kernel
theorem dX9_take_51 : decode cX9_take 51 = .ok (.aload_n 0, 1) := by decide +kernel
theorem dX9_take_52 : decode cX9_take 52 = .ok (.getfield 115, 3) := by decide +kernel
theorem dX9_take_55 : decode cX9_take 55 = .ok (.iload_n 2, 1) := by decide +kernel
theorem dX9_take_56 : decode cX9_take 56 = .ok (.aload_n 0, 1) := by decide +kernel
theorem dX9_take_57 : decode cX9_take 57 = .ok (.getfield 81, 3) := by decide +kernel
theorem dX9_take_60 : decode cX9_take 60 = .ok (.iload_n 3, 1) := by decide +kernel
theorem dX9_take_61 : decode cX9_take 61 = .ok (.iaload, 1) := by decide +kernel
theorem dX9_take_62 : decode cX9_take 62 = .ok (.iastore, 1) := by decide +kernel
theorem dX9_take_63 : decode cX9_take 63 = .ok (.aload_n 0, 1) := by decide +kernel
theorem dX9_take_64 : decode cX9_take 64 = .ok (.getfield 118, 3) := by decide +kernel
theorem dX9_take_67 : decode cX9_take 67 = .ok (.iload_n 2, 1) := by decide +kernel
theorem dX9_take_68 : decode cX9_take 68 = .ok (.aload_n 0, 1) := by decide +kernel
theorem dX9_take_69 : decode cX9_take 69 = .ok (.getfield 84, 3) := by decide +kernel
theorem dX9_take_72 : decode cX9_take 72 = .ok (.iload_n 3, 1) := by decide +kernel
theorem dX9_take_73 : decode cX9_take 73 = .ok (.iaload, 1) := by decide +kernel
theorem dX9_take_74 : decode cX9_take 74 = .ok (.iastore, 1) := by decide +kernel
theorem dX9_take_75 : decode cX9_take 75 = .ok (.iinc 2 1, 3) := by decide +kernel
theorem dX9_take_78 : decode cX9_take 78 = .ok (.goto (-76), 3) := by decide +kernel
theorem dX9_take_81 : decode cX9_take 81 = .ok (.iconst 0, 1) := by decide +kernel
theorem dX9_take_82 : decode cX9_take 82 = .ok (.istore_n 2, 1) := by decide +kernel
theorem dX9_take_83 : decode cX9_take 83 = .ok (.iload_n 2, 1) := by decide +kernel
theorem dX9_take_84 : decode cX9_take 84 = .ok (.bipush 64, 2) := by decide +kernel
theorem dX9_take_86 : decode cX9_take 86 = .ok (.if_icmp .ge 87, 3) := by decide +kernel
theorem dX9_take_89 : decode cX9_take 89 = .ok (.bipush 64, 2) := by decide +kernel
theorem dX9_take_91 : decode cX9_take 91 = .ok (.iload_n 1, 1) := by decide +kernel
theorem dX9_take_92 : decode cX9_take 92 = .ok (.imul, 1) := by decide +kernel
theorem dX9_take_93 : decode cX9_take 93 = .ok (.iload_n 2, 1) := by decide +kernel
theorem dX9_take_94 : decode cX9_take 94 = .ok (.iadd, 1) := by decide +kernel
theorem dX9_take_95 : decode cX9_take 95 = .ok (.istore_n 3, 1) := by decide +kernel
theorem dX9_take_96 : decode cX9_take 96 = .ok (.bipush 11, 2) := by decide +kernel
theorem dX9_take_98 : decode cX9_take 98 = .ok (.iload_n 2, 1) := by decide +kernel
theorem dX9_take_99 : decode cX9_take 99 = .ok (.iadd, 1) := by decide +kernel
theorem dX9_take_100 : decode cX9_take 100 = .ok (.istore 4, 2) := by decide +kernel
theorem dX9_take_102 : decode cX9_take 102 = .ok (.aload_n 0, 1) := by decide +kernel
theorem dX9_take_103 : decode cX9_take 103 = .ok (.getfield 106, 3) := by decide +kernel
theorem dX9_take_106 : decode cX9_take 106 = .ok (.iload 4, 2) := by decide +kernel
theorem dX9_take_108 : decode cX9_take 108 = .ok (.aload_n 0, 1) := by decide +kernel
theorem dX9_take_109 : decode cX9_take 109 = .ok (.getfield 91, 3) := by decide +kernel
theorem dX9_take_112 : decode cX9_take 112 = .ok (.iload_n 3, 1) := by decide +kernel
theorem dX9_take_113 : decode cX9_take 113 = .ok (.iaload, 1) := by decide +kernel
theorem dX9_take_114 : decode cX9_take 114 = .ok (.iastore, 1) := by decide +kernel
theorem dX9_take_115 : decode cX9_take 115 = .ok (.aload_n 0, 1) := by decide +kernel
theorem dX9_take_116 : decode cX9_take 116 = .ok (.getfield 109, 3) := by decide +kernel
theorem dX9_take_119 : decode cX9_take 119 = .ok (.iload 4, 2) := by decide +kernel
theorem dX9_take_121 : decode cX9_take 121 = .ok (.aload_n 0, 1) := by decide +kernel
theorem dX9_take_122 : decode cX9_take 122 = .ok (.getfield 94, 3) := by decide +kernel
theorem dX9_take_125 : decode cX9_take 125 = .ok (.iload_n 3, 1) := by decide +kernel
theorem dX9_take_126 : decode cX9_take 126 = .ok (.laload, 1) := by decide +kernel
theorem dX9_take_127 : decode cX9_take 127 = .ok (.lastore, 1) := by decide +kernel
theorem dX9_take_128 : decode cX9_take 128 = .ok (.aload_n 0, 1) := by decide +kernel
theorem dX9_take_129 : decode cX9_take 129 = .ok (.getfield 112, 3) := by decide +kernel
theorem dX9_take_132 : decode cX9_take 132 = .ok (.iload 4, 2) := by decide +kernel
theorem dX9_take_134 : decode cX9_take 134 = .ok (.aload_n 0, 1) := by decide +kernel
theorem dX9_take_135 : decode cX9_take 135 = .ok (.getfield 97, 3) := by decide +kernel
theorem dX9_take_138 : decode cX9_take 138 = .ok (.iload_n 3, 1) := by decide +kernel
theorem dX9_take_139 : decode cX9_take 139 = .ok (.laload, 1) := by decide +kernel
theorem dX9_take_140 : decode cX9_take 140 = .ok (.lastore, 1) := by decide +kernel
theorem dX9_take_141 : decode cX9_take 141 = .ok (.aload_n 0, 1) := by decide +kernel
theorem dX9_take_142 : decode cX9_take 142 = .ok (.getfield 115, 3) := by decide +kernel
theorem dX9_take_145 : decode cX9_take 145 = .ok (.iload 4, 2) := by decide +kernel
theorem dX9_take_147 : decode cX9_take 147 = .ok (.aload_n 0, 1) := by decide +kernel
theorem dX9_take_148 : decode cX9_take 148 = .ok (.getfield 100, 3) := by decide +kernel
theorem dX9_take_151 : decode cX9_take 151 = .ok (.iload_n 3, 1) := by decide +kernel
theorem dX9_take_152 : decode cX9_take 152 = .ok (.iaload, 1) := by decide +kernel
theorem dX9_take_153 : decode cX9_take 153 = .ok (.iastore, 1) := by decide +kernel
theorem dX9_take_154 : decode cX9_take 154 = .ok (.aload_n 0, 1) := by decide +kernel
theorem dX9_take_155 : decode cX9_take 155 = .ok (.getfield 118, 3) := by decide +kernel
theorem dX9_take_158 : decode cX9_take 158 = .ok (.iload 4, 2) := by decide +kernel
theorem dX9_take_160 : decode cX9_take 160 = .ok (.aload_n 0, 1) := by decide +kernel
theorem dX9_take_161 : decode cX9_take 161 = .ok (.getfield 103, 3) := by decide +kernel
theorem dX9_take_164 : decode cX9_take 164 = .ok (.iload_n 3, 1) := by decide +kernel
theorem dX9_take_165 : decode cX9_take 165 = .ok (.iaload, 1) := by decide +kernel
theorem dX9_take_166 : decode cX9_take 166 = .ok (.iastore, 1) := by decide +kernel
theorem dX9_take_167 : decode cX9_take 167 = .ok (.iinc 2 1, 3) := by decide +kernel
theorem dX9_take_170 : decode cX9_take 170 = .ok (.goto (-87), 3) := by decide +kernel
theorem dX9_take_173 : decode cX9_take 173 = .ok (.iconst 0, 1) := by decide +kernel
theorem dX9_take_174 : decode cX9_take 174 = .ok (.istore_n 2, 1) := by decide +kernel
theorem dX9_take_175 : decode cX9_take 175 = .ok (.iload_n 2, 1) := by decide +kernel
theorem dX9_take_176 : decode cX9_take 176 = .ok (.sipush 512, 3) := by decide +kernel
theorem dX9_take_179 : decode cX9_take 179 = .ok (.if_icmp .ge 27, 3) := by decide +kernel
theorem dX9_take_182 : decode cX9_take 182 = .ok (.aload_n 0, 1) := by decide +kernel
theorem dX9_take_183 : decode cX9_take 183 = .ok (.getfield 121, 3) := by decide +kernel
theorem dX9_take_186 : decode cX9_take 186 = .ok (.iload_n 2, 1) := by decide +kernel
theorem dX9_take_187 : decode cX9_take 187 = .ok (.aload_n 0, 1) := by decide +kernel
theorem dX9_take_188 : decode cX9_take 188 = .ok (.getfield 88, 3) := by decide +kernel
theorem dX9_take_191 : decode cX9_take 191 = .ok (.sipush 512, 3) := by decide +kernel
theorem dX9_take_194 : decode cX9_take 194 = .ok (.iload_n 1, 1) := by decide +kernel
theorem dX9_take_195 : decode cX9_take 195 = .ok (.imul, 1) := by decide +kernel
theorem dX9_take_196 : decode cX9_take 196 = .ok (.iload_n 2, 1) := by decide +kernel
theorem dX9_take_197 : decode cX9_take 197 = .ok (.iadd, 1) := by decide +kernel
theorem dX9_take_198 : decode cX9_take 198 = .ok (.baload, 1) := by decide +kernel
theorem dX9_take_199 : decode cX9_take 199 = .ok (.bastore, 1) := by decide +kernel
theorem dX9_take_200 : decode cX9_take 200 = .ok (.iinc 2 1, 3) := by decide +kernel
theorem dX9_take_203 : decode cX9_take 203 = .ok (.goto (-28), 3) := by decide +kernel
theorem dX9_take_206 : decode cX9_take 206 = .ok (.return_, 1) := by decide +kernel
theorem dX9_copy_0 : decode cX9_copy 0 = .ok (.iconst 0, 1) := by decide +kernel
theorem dX9_copy_1 : decode cX9_copy 1 = .ok (.istore_n 3, 1) := by decide +kernel
theorem dX9_copy_2 : decode cX9_copy 2 = .ok (.iload_n 3, 1) := by decide +kernel
theorem dX9_copy_3 : decode cX9_copy 3 = .ok (.bipush 75, 2) := by decide +kernel
theorem dX9_copy_5 : decode cX9_copy 5 = .ok (.if_icmp .ge 89, 3) := by decide +kernel
theorem dX9_copy_8 : decode cX9_copy 8 = .ok (.aload_n 0, 1) := by decide +kernel
theorem dX9_copy_9 : decode cX9_copy 9 = .ok (.getfield 106, 3) := by decide +kernel
theorem dX9_copy_12 : decode cX9_copy 12 = .ok (.iload_n 2, 1) := by decide +kernel
theorem dX9_copy_13 : decode cX9_copy 13 = .ok (.iload_n 3, 1) := by decide +kernel
theorem dX9_copy_14 : decode cX9_copy 14 = .ok (.iadd, 1) := by decide +kernel
theorem dX9_copy_15 : decode cX9_copy 15 = .ok (.aload_n 0, 1) := by decide +kernel
theorem dX9_copy_16 : decode cX9_copy 16 = .ok (.getfield 106, 3) := by decide +kernel
theorem dX9_copy_19 : decode cX9_copy 19 = .ok (.iload_n 1, 1) := by decide +kernel
theorem dX9_copy_20 : decode cX9_copy 20 = .ok (.iload_n 3, 1) := by decide +kernel
theorem dX9_copy_21 : decode cX9_copy 21 = .ok (.iadd, 1) := by decide +kernel
theorem dX9_copy_22 : decode cX9_copy 22 = .ok (.iaload, 1) := by decide +kernel
theorem dX9_copy_23 : decode cX9_copy 23 = .ok (.iastore, 1) := by decide +kernel
theorem dX9_copy_24 : decode cX9_copy 24 = .ok (.aload_n 0, 1) := by decide +kernel
theorem dX9_copy_25 : decode cX9_copy 25 = .ok (.getfield 109, 3) := by decide +kernel
theorem dX9_copy_28 : decode cX9_copy 28 = .ok (.iload_n 2, 1) := by decide +kernel
theorem dX9_copy_29 : decode cX9_copy 29 = .ok (.iload_n 3, 1) := by decide +kernel
theorem dX9_copy_30 : decode cX9_copy 30 = .ok (.iadd, 1) := by decide +kernel
theorem dX9_copy_31 : decode cX9_copy 31 = .ok (.aload_n 0, 1) := by decide +kernel
theorem dX9_copy_32 : decode cX9_copy 32 = .ok (.getfield 109, 3) := by decide +kernel
theorem dX9_copy_35 : decode cX9_copy 35 = .ok (.iload_n 1, 1) := by decide +kernel
theorem dX9_copy_36 : decode cX9_copy 36 = .ok (.iload_n 3, 1) := by decide +kernel
theorem dX9_copy_37 : decode cX9_copy 37 = .ok (.iadd, 1) := by decide +kernel
theorem dX9_copy_38 : decode cX9_copy 38 = .ok (.laload, 1) := by decide +kernel
theorem dX9_copy_39 : decode cX9_copy 39 = .ok (.lastore, 1) := by decide +kernel
theorem dX9_copy_40 : decode cX9_copy 40 = .ok (.aload_n 0, 1) := by decide +kernel
theorem dX9_copy_41 : decode cX9_copy 41 = .ok (.getfield 112, 3) := by decide +kernel
theorem dX9_copy_44 : decode cX9_copy 44 = .ok (.iload_n 2, 1) := by decide +kernel
theorem dX9_copy_45 : decode cX9_copy 45 = .ok (.iload_n 3, 1) := by decide +kernel
theorem dX9_copy_46 : decode cX9_copy 46 = .ok (.iadd, 1) := by decide +kernel
theorem dX9_copy_47 : decode cX9_copy 47 = .ok (.aload_n 0, 1) := by decide +kernel
theorem dX9_copy_48 : decode cX9_copy 48 = .ok (.getfield 112, 3) := by decide +kernel
theorem dX9_copy_51 : decode cX9_copy 51 = .ok (.iload_n 1, 1) := by decide +kernel
theorem dX9_copy_52 : decode cX9_copy 52 = .ok (.iload_n 3, 1) := by decide +kernel
theorem dX9_copy_53 : decode cX9_copy 53 = .ok (.iadd, 1) := by decide +kernel
theorem dX9_copy_54 : decode cX9_copy 54 = .ok (.laload, 1) := by decide +kernel
theorem dX9_copy_55 : decode cX9_copy 55 = .ok (.lastore, 1) := by decide +kernel
theorem dX9_copy_56 : decode cX9_copy 56 = .ok (.aload_n 0, 1) := by decide +kernel
theorem dX9_copy_57 : decode cX9_copy 57 = .ok (.getfield 115, 3) := by decide +kernel
theorem dX9_copy_60 : decode cX9_copy 60 = .ok (.iload_n 2, 1) := by decide +kernel
theorem dX9_copy_61 : decode cX9_copy 61 = .ok (.iload_n 3, 1) := by decide +kernel
theorem dX9_copy_62 : decode cX9_copy 62 = .ok (.iadd, 1) := by decide +kernel
theorem dX9_copy_63 : decode cX9_copy 63 = .ok (.aload_n 0, 1) := by decide +kernel
theorem dX9_copy_64 : decode cX9_copy 64 = .ok (.getfield 115, 3) := by decide +kernel
theorem dX9_copy_67 : decode cX9_copy 67 = .ok (.iload_n 1, 1) := by decide +kernel
theorem dX9_copy_68 : decode cX9_copy 68 = .ok (.iload_n 3, 1) := by decide +kernel
theorem dX9_copy_69 : decode cX9_copy 69 = .ok (.iadd, 1) := by decide +kernel
theorem dX9_copy_70 : decode cX9_copy 70 = .ok (.iaload, 1) := by decide +kernel
theorem dX9_copy_71 : decode cX9_copy 71 = .ok (.iastore, 1) := by decide +kernel
theorem dX9_copy_72 : decode cX9_copy 72 = .ok (.aload_n 0, 1) := by decide +kernel
theorem dX9_copy_73 : decode cX9_copy 73 = .ok (.getfield 118, 3) := by decide +kernel
theorem dX9_copy_76 : decode cX9_copy 76 = .ok (.iload_n 2, 1) := by decide +kernel
theorem dX9_copy_77 : decode cX9_copy 77 = .ok (.iload_n 3, 1) := by decide +kernel
theorem dX9_copy_78 : decode cX9_copy 78 = .ok (.iadd, 1) := by decide +kernel
theorem dX9_copy_79 : decode cX9_copy 79 = .ok (.aload_n 0, 1) := by decide +kernel
theorem dX9_copy_80 : decode cX9_copy 80 = .ok (.getfield 118, 3) := by decide +kernel
theorem dX9_copy_83 : decode cX9_copy 83 = .ok (.iload_n 1, 1) := by decide +kernel
theorem dX9_copy_84 : decode cX9_copy 84 = .ok (.iload_n 3, 1) := by decide +kernel
theorem dX9_copy_85 : decode cX9_copy 85 = .ok (.iadd, 1) := by decide +kernel
theorem dX9_copy_86 : decode cX9_copy 86 = .ok (.iaload, 1) := by decide +kernel
theorem dX9_copy_87 : decode cX9_copy 87 = .ok (.iastore, 1) := by decide +kernel
theorem dX9_copy_88 : decode cX9_copy 88 = .ok (.iinc 3 1, 3) := by decide +kernel
theorem dX9_copy_91 : decode cX9_copy 91 = .ok (.goto (-89), 3) := by decide +kernel
theorem dX9_copy_94 : decode cX9_copy 94 = .ok (.iload_n 1, 1) := by decide +kernel
theorem dX9_copy_95 : decode cX9_copy 95 = .ok (.ifCond .ne 7, 3) := by decide +kernel
theorem dX9_copy_98 : decode cX9_copy 98 = .ok (.iconst 0, 1) := by decide +kernel
theorem dX9_copy_99 : decode cX9_copy 99 = .ok (.goto 6, 3) := by decide +kernel
theorem dX9_copy_102 : decode cX9_copy 102 = .ok (.sipush 512, 3) := by decide +kernel
theorem dX9_copy_105 : decode cX9_copy 105 = .ok (.istore_n 3, 1) := by decide +kernel
theorem dX9_copy_106 : decode cX9_copy 106 = .ok (.iconst 0, 1) := by decide +kernel
theorem dX9_copy_107 : decode cX9_copy 107 = .ok (.istore 4, 2) := by decide +kernel
theorem dX9_copy_109 : decode cX9_copy 109 = .ok (.iload 4, 2) := by decide +kernel
theorem dX9_copy_111 : decode cX9_copy 111 = .ok (.sipush 512, 3) := by decide +kernel
theorem dX9_copy_114 : decode cX9_copy 114 = .ok (.if_icmp .ge 31, 3) := by decide +kernel
theorem dX9_copy_117 : decode cX9_copy 117 = .ok (.aload_n 0, 1) := by decide +kernel
theorem dX9_copy_118 : decode cX9_copy 118 = .ok (.getfield 121, 3) := by decide +kernel
theorem dX9_copy_121 : decode cX9_copy 121 = .ok (.sipush 512, 3) := by decide +kernel
theorem dX9_copy_124 : decode cX9_copy 124 = .ok (.iload_n 3, 1) := by decide +kernel
theorem dX9_copy_125 : decode cX9_copy 125 = .ok (.isub, 1) := by decide +kernel
theorem dX9_copy_126 : decode cX9_copy 126 = .ok (.iload 4, 2) := by decide +kernel
theorem dX9_copy_128 : decode cX9_copy 128 = .ok (.iadd, 1) := by decide +kernel
theorem dX9_copy_129 : decode cX9_copy 129 = .ok (.aload_n 0, 1) := by decide +kernel
theorem dX9_copy_130 : decode cX9_copy 130 = .ok (.getfield 121, 3) := by decide +kernel
theorem dX9_copy_133 : decode cX9_copy 133 = .ok (.iload_n 3, 1) := by decide +kernel
theorem dX9_copy_134 : decode cX9_copy 134 = .ok (.iload 4, 2) := by decide +kernel
theorem dX9_copy_136 : decode cX9_copy 136 = .ok (.iadd, 1) := by decide +kernel
theorem dX9_copy_137 : decode cX9_copy 137 = .ok (.baload, 1) := by decide +kernel
theorem dX9_copy_138 : decode cX9_copy 138 = .ok (.bastore, 1) := by decide +kernel
theorem dX9_copy_139 : decode cX9_copy 139 = .ok (.iinc 4 1, 3) := by decide +kernel
theorem dX9_copy_142 : decode cX9_copy 142 = .ok (.goto (-33), 3) := by decide +kernel
theorem dX9_copy_145 : decode cX9_copy 145 = .ok (.return_, 1) := by decide +kernel
theorem dX9_number_0 : decode cX9_number 0 = .ok (.aload_n 0, 1) := by decide +kernel
theorem dX9_number_1 : decode cX9_number 1 = .ok (.getfield 106, 3) := by decide +kernel
theorem dX9_number_4 : decode cX9_number 4 = .ok (.iload_n 1, 1) := by decide +kernel
theorem dX9_number_5 : decode cX9_number 5 = .ok (.iconst 1, 1) := by decide +kernel
theorem dX9_number_6 : decode cX9_number 6 = .ok (.iastore, 1) := by decide +kernel
theorem dX9_number_7 : decode cX9_number 7 = .ok (.aload_n 0, 1) := by decide +kernel
theorem dX9_number_8 : decode cX9_number 8 = .ok (.getfield 109, 3) := by decide +kernel
theorem dX9_number_11 : decode cX9_number 11 = .ok (.iload_n 1, 1) := by decide +kernel
theorem dX9_number_12 : decode cX9_number 12 = .ok (.lload_n 2, 1) := by decide +kernel
theorem dX9_number_13 : decode cX9_number 13 = .ok (.lastore, 1) := by decide +kernel
theorem dX9_number_14 : decode cX9_number 14 = .ok (.aload_n 0, 1) := by decide +kernel
theorem dX9_number_15 : decode cX9_number 15 = .ok (.getfield 112, 3) := by decide +kernel
theorem dX9_number_18 : decode cX9_number 18 = .ok (.iload_n 1, 1) := by decide +kernel
theorem dX9_number_19 : decode cX9_number 19 = .ok (.lload 4, 2) := by decide +kernel
theorem dX9_number_21 : decode cX9_number 21 = .ok (.lastore, 1) := by decide +kernel
theorem dX9_number_22 : decode cX9_number 22 = .ok (.aload_n 0, 1) := by decide +kernel
theorem dX9_number_23 : decode cX9_number 23 = .ok (.getfield 115, 3) := by decide +kernel
theorem dX9_number_26 : decode cX9_number 26 = .ok (.iload_n 1, 1) := by decide +kernel
theorem dX9_number_27 : decode cX9_number 27 = .ok (.iconst 0, 1) := by decide +kernel
theorem dX9_number_28 : decode cX9_number 28 = .ok (.iastore, 1) := by decide +kernel
theorem dX9_number_29 : decode cX9_number 29 = .ok (.aload_n 0, 1) := by decide +kernel
theorem dX9_number_30 : decode cX9_number 30 = .ok (.getfield 118, 3) := by decide +kernel
theorem dX9_number_33 : decode cX9_number 33 = .ok (.iload_n 1, 1) := by decide +kernel
theorem dX9_number_34 : decode cX9_number 34 = .ok (.iconst 0, 1) := by decide +kernel
theorem dX9_number_35 : decode cX9_number 35 = .ok (.iastore, 1) := by decide +kernel
theorem dX9_number_36 : decode cX9_number 36 = .ok (.return_, 1) := by decide +kernel
theorem dX9_forget_0 : decode cX9_forget 0 = .ok (.aload_n 0, 1) := by decide +kernel
theorem dX9_forget_1 : decode cX9_forget 1 = .ok (.getfield 106, 3) := by decide +kernel
theorem dX9_forget_4 : decode cX9_forget 4 = .ok (.iload_n 1, 1) := by decide +kernel
theorem dX9_forget_5 : decode cX9_forget 5 = .ok (.iconst 0, 1) := by decide +kernel
theorem dX9_forget_6 : decode cX9_forget 6 = .ok (.iastore, 1) := by decide +kernel
theorem dX9_forget_7 : decode cX9_forget 7 = .ok (.aload_n 0, 1) := by decide +kernel
theorem dX9_forget_8 : decode cX9_forget 8 = .ok (.getfield 109, 3) := by decide +kernel
theorem dX9_forget_11 : decode cX9_forget 11 = .ok (.iload_n 1, 1) := by decide +kernel
theorem dX9_forget_12 : decode cX9_forget 12 = .ok (.lconst 0, 1) := by decide +kernel
theorem dX9_forget_13 : decode cX9_forget 13 = .ok (.lastore, 1) := by decide +kernel
theorem dX9_forget_14 : decode cX9_forget 14 = .ok (.aload_n 0, 1) := by decide +kernel
theorem dX9_forget_15 : decode cX9_forget 15 = .ok (.getfield 112, 3) := by decide +kernel
theorem dX9_forget_18 : decode cX9_forget 18 = .ok (.iload_n 1, 1) := by decide +kernel
theorem dX9_forget_19 : decode cX9_forget 19 = .ok (.lconst 0, 1) := by decide +kernel
theorem dX9_forget_20 : decode cX9_forget 20 = .ok (.lastore, 1) := by decide +kernel
theorem dX9_forget_21 : decode cX9_forget 21 = .ok (.aload_n 0, 1) := by decide +kernel
theorem dX9_forget_22 : decode cX9_forget 22 = .ok (.getfield 115, 3) := by decide +kernel
theorem dX9_forget_25 : decode cX9_forget 25 = .ok (.iload_n 1, 1) := by decide +kernel
theorem dX9_forget_26 : decode cX9_forget 26 = .ok (.iconst 0, 1) := by decide +kernel
theorem dX9_forget_27 : decode cX9_forget 27 = .ok (.iastore, 1) := by decide +kernel
theorem dX9_forget_28 : decode cX9_forget 28 = .ok (.aload_n 0, 1) := by decide +kernel
theorem dX9_forget_29 : decode cX9_forget 29 = .ok (.getfield 118, 3) := by decide +kernel
theorem dX9_forget_32 : decode cX9_forget 32 = .ok (.iload_n 1, 1) := by decide +kernel
theorem dX9_forget_33 : decode cX9_forget 33 = .ok (.iconst 0, 1) := by decide +kernel
theorem dX9_forget_34 : decode cX9_forget 34 = .ok (.iastore, 1) := by decide +kernel
theorem dX9_forget_35 : decode cX9_forget 35 = .ok (.return_, 1) := by decide +kernel
theorem dX9_same_0 : decode cX9_same 0 = .ok (.aload_n 0, 1) := by decide +kernel
theorem dX9_same_1 : decode cX9_same 1 = .ok (.getfield 106, 3) := by decide +kernel
theorem dX9_same_4 : decode cX9_same 4 = .ok (.iload_n 2, 1) := by decide +kernel
theorem dX9_same_5 : decode cX9_same 5 = .ok (.aload_n 0, 1) := by decide +kernel
theorem dX9_same_6 : decode cX9_same 6 = .ok (.getfield 106, 3) := by decide +kernel
theorem dX9_same_9 : decode cX9_same 9 = .ok (.iload_n 1, 1) := by decide +kernel
theorem dX9_same_10 : decode cX9_same 10 = .ok (.iaload, 1) := by decide +kernel
theorem dX9_same_11 : decode cX9_same 11 = .ok (.iastore, 1) := by decide +kernel
theorem dX9_same_12 : decode cX9_same 12 = .ok (.aload_n 0, 1) := by decide +kernel
theorem dX9_same_13 : decode cX9_same 13 = .ok (.getfield 109, 3) := by decide +kernel
theorem dX9_same_16 : decode cX9_same 16 = .ok (.iload_n 2, 1) := by decide +kernel
theorem dX9_same_17 : decode cX9_same 17 = .ok (.aload_n 0, 1) := by decide +kernel
theorem dX9_same_18 : decode cX9_same 18 = .ok (.getfield 109, 3) := by decide +kernel
theorem dX9_same_21 : decode cX9_same 21 = .ok (.iload_n 1, 1) := by decide +kernel
theorem dX9_same_22 : decode cX9_same 22 = .ok (.laload, 1) := by decide +kernel
theorem dX9_same_23 : decode cX9_same 23 = .ok (.lastore, 1) := by decide +kernel
theorem dX9_same_24 : decode cX9_same 24 = .ok (.aload_n 0, 1) := by decide +kernel
theorem dX9_same_25 : decode cX9_same 25 = .ok (.getfield 112, 3) := by decide +kernel
theorem dX9_same_28 : decode cX9_same 28 = .ok (.iload_n 2, 1) := by decide +kernel
theorem dX9_same_29 : decode cX9_same 29 = .ok (.aload_n 0, 1) := by decide +kernel
theorem dX9_same_30 : decode cX9_same 30 = .ok (.getfield 112, 3) := by decide +kernel
theorem dX9_same_33 : decode cX9_same 33 = .ok (.iload_n 1, 1) := by decide +kernel
theorem dX9_same_34 : decode cX9_same 34 = .ok (.laload, 1) := by decide +kernel
theorem dX9_same_35 : decode cX9_same 35 = .ok (.lastore, 1) := by decide +kernel
theorem dX9_same_36 : decode cX9_same 36 = .ok (.aload_n 0, 1) := by decide +kernel
theorem dX9_same_37 : decode cX9_same 37 = .ok (.getfield 115, 3) := by decide +kernel
theorem dX9_same_40 : decode cX9_same 40 = .ok (.iload_n 2, 1) := by decide +kernel
theorem dX9_same_41 : decode cX9_same 41 = .ok (.aload_n 0, 1) := by decide +kernel
theorem dX9_same_42 : decode cX9_same 42 = .ok (.getfield 115, 3) := by decide +kernel
theorem dX9_same_45 : decode cX9_same 45 = .ok (.iload_n 1, 1) := by decide +kernel
theorem dX9_same_46 : decode cX9_same 46 = .ok (.iaload, 1) := by decide +kernel
theorem dX9_same_47 : decode cX9_same 47 = .ok (.iastore, 1) := by decide +kernel
theorem dX9_same_48 : decode cX9_same 48 = .ok (.aload_n 0, 1) := by decide +kernel
theorem dX9_same_49 : decode cX9_same 49 = .ok (.getfield 118, 3) := by decide +kernel
theorem dX9_same_52 : decode cX9_same 52 = .ok (.iload_n 2, 1) := by decide +kernel
theorem dX9_same_53 : decode cX9_same 53 = .ok (.aload_n 0, 1) := by decide +kernel
theorem dX9_same_54 : decode cX9_same 54 = .ok (.getfield 118, 3) := by decide +kernel
theorem dX9_same_57 : decode cX9_same 57 = .ok (.iload_n 1, 1) := by decide +kernel
theorem dX9_same_58 : decode cX9_same 58 = .ok (.iaload, 1) := by decide +kernel
theorem dX9_same_59 : decode cX9_same 59 = .ok (.iastore, 1) := by decide +kernel
theorem dX9_same_60 : decode cX9_same 60 = .ok (.return_, 1) := by decide +kernel
theorem dX9_lesser_0 : decode cX9_lesser 0 = .ok (.lload_n 0, 1) := by decide +kernel
theorem dX9_lesser_1 : decode cX9_lesser 1 = .ok (.lload_n 2, 1) := by decide +kernel
theorem dX9_lesser_2 : decode cX9_lesser 2 = .ok (.invokestatic 175, 3) := by decide +kernel
theorem dX9_lesser_5 : decode cX9_lesser 5 = .ok (.ifCond .eq 7, 3) := by decide +kernel
theorem dX9_lesser_8 : decode cX9_lesser 8 = .ok (.lload_n 0, 1) := by decide +kernel
theorem dX9_lesser_9 : decode cX9_lesser 9 = .ok (.goto 4, 3) := by decide +kernel
theorem dX9_lesser_12 : decode cX9_lesser 12 = .ok (.lload_n 2, 1) := by decide +kernel
theorem dX9_lesser_13 : decode cX9_lesser 13 = .ok (.lreturn, 1) := by decide +kernel
theorem dX9_greater_0 : decode cX9_greater 0 = .ok (.lload_n 0, 1) := by decide +kernel
theorem dX9_greater_1 : decode cX9_greater 1 = .ok (.lload_n 2, 1) := by decide +kernel
theorem dX9_greater_2 : decode cX9_greater 2 = .ok (.invokestatic 175, 3) := by decide +kernel
theorem dX9_greater_5 : decode cX9_greater 5 = .ok (.ifCond .eq 7, 3) := by decide +kernel
theorem dX9_greater_8 : decode cX9_greater 8 = .ok (.lload_n 2, 1) := by decide +kernel
theorem dX9_greater_9 : decode cX9_greater 9 = .ok (.goto 4, 3) := by decide +kernel
theorem dX9_greater_12 : decode cX9_greater 12 = .ok (.lload_n 0, 1) := by decide +kernel
theorem dX9_greater_13 : decode cX9_greater 13 = .ok (.lreturn, 1) := by decide +kernel
theorem dX9_join_0 : decode cX9_join 0 = .ok (.aload_n 0, 1) := by decide +kernel
theorem dX9_join_1 : decode cX9_join 1 = .ok (.iconst 0, 1) := by decide +kernel
theorem dX9_join_2 : decode cX9_join 2 = .ok (.putfield 329, 3) := by decide +kernel
theorem dX9_join_5 : decode cX9_join 5 = .ok (.aload_n 0, 1) := by decide +kernel
theorem dX9_join_6 : decode cX9_join 6 = .ok (.lconst 0, 1) := by decide +kernel
theorem dX9_join_7 : decode cX9_join 7 = .ok (.putfield 332, 3) := by decide +kernel
theorem dX9_join_10 : decode cX9_join 10 = .ok (.aload_n 0, 1) := by decide +kernel
theorem dX9_join_11 : decode cX9_join 11 = .ok (.lconst 0, 1) := by decide +kernel
theorem dX9_join_12 : decode cX9_join 12 = .ok (.putfield 335, 3) := by decide +kernel
theorem dX9_join_15 : decode cX9_join 15 = .ok (.iload_n 2, 1) := by decide +kernel
theorem dX9_join_16 : decode cX9_join 16 = .ok (.aload_n 0, 1) := by decide +kernel
theorem dX9_join_17 : decode cX9_join 17 = .ok (.getfield 106, 3) := by decide +kernel
theorem dX9_join_20 : decode cX9_join 20 = .ok (.iload_n 1, 1) := by decide +kernel
theorem dX9_join_21 : decode cX9_join 21 = .ok (.iaload, 1) := by decide +kernel
theorem dX9_join_22 : decode cX9_join 22 = .ok (.if_icmp .eq 4, 3) := by decide +kernel
theorem dX9_join_25 : decode cX9_join 25 = .ok (.return_, 1) := by decide +kernel
theorem dX9_join_26 : decode cX9_join 26 = .ok (.iload_n 2, 1) := by decide +kernel
theorem dX9_join_27 : decode cX9_join 27 = .ok (.iconst 1, 1) := by decide +kernel
theorem dX9_join_28 : decode cX9_join 28 = .ok (.if_icmp .ne 40, 3) := by decide +kernel
theorem dX9_join_31 : decode cX9_join 31 = .ok (.aload_n 0, 1) := by decide +kernel
theorem dX9_join_32 : decode cX9_join 32 = .ok (.iconst 1, 1) := by decide +kernel
theorem dX9_join_33 : decode cX9_join 33 = .ok (.putfield 329, 3) := by decide +kernel
theorem dX9_join_36 : decode cX9_join 36 = .ok (.aload_n 0, 1) := by decide +kernel
theorem dX9_join_37 : decode cX9_join 37 = .ok (.lload_n 3, 1) := by decide +kernel
theorem dX9_join_38 : decode cX9_join 38 = .ok (.aload_n 0, 1) := by decide +kernel
theorem dX9_join_39 : decode cX9_join 39 = .ok (.getfield 109, 3) := by decide +kernel
theorem dX9_join_42 : decode cX9_join 42 = .ok (.iload_n 1, 1) := by decide +kernel
theorem dX9_join_43 : decode cX9_join 43 = .ok (.laload, 1) := by decide +kernel
theorem dX9_join_44 : decode cX9_join 44 = .ok (.invokestatic 338, 3) := by decide +kernel
theorem dX9_join_47 : decode cX9_join 47 = .ok (.putfield 332, 3) := by decide +kernel
theorem dX9_join_50 : decode cX9_join 50 = .ok (.aload_n 0, 1) := by decide +kernel
theorem dX9_join_51 : decode cX9_join 51 = .ok (.lload 5, 2) := by decide +kernel
theorem dX9_join_53 : decode cX9_join 53 = .ok (.aload_n 0, 1) := by decide +kernel
theorem dX9_join_54 : decode cX9_join 54 = .ok (.getfield 112, 3) := by decide +kernel
theorem dX9_join_57 : decode cX9_join 57 = .ok (.iload_n 1, 1) := by decide +kernel
theorem dX9_join_58 : decode cX9_join 58 = .ok (.laload, 1) := by decide +kernel
theorem dX9_join_59 : decode cX9_join 59 = .ok (.invokestatic 341, 3) := by decide +kernel
theorem dX9_join_62 : decode cX9_join 62 = .ok (.putfield 335, 3) := by decide +kernel
theorem dX9_join_65 : decode cX9_join 65 = .ok (.goto 138, 3) := by decide +kernel
theorem dX9_join_68 : decode cX9_join 68 = .ok (.iload_n 2, 1) := by decide +kernel
theorem dX9_join_69 : decode cX9_join 69 = .ok (.iconst 2, 1) := by decide +kernel
theorem dX9_join_70 : decode cX9_join 70 = .ok (.if_icmp .eq 19, 3) := by decide +kernel
theorem dX9_join_73 : decode cX9_join 73 = .ok (.iload_n 2, 1) := by decide +kernel
theorem dX9_join_74 : decode cX9_join 74 = .ok (.iconst 5, 1) := by decide +kernel
theorem dX9_join_75 : decode cX9_join 75 = .ok (.if_icmp .ne 74, 3) := by decide +kernel
theorem dX9_join_78 : decode cX9_join 78 = .ok (.iload 7, 2) := by decide +kernel
theorem dX9_join_80 : decode cX9_join 80 = .ok (.aload_n 0, 1) := by decide +kernel
theorem dX9_join_81 : decode cX9_join 81 = .ok (.getfield 115, 3) := by decide +kernel
theorem dX9_join_84 : decode cX9_join 84 = .ok (.iload_n 1, 1) := by decide +kernel
theorem dX9_join_85 : decode cX9_join 85 = .ok (.iaload, 1) := by decide +kernel
theorem dX9_join_86 : decode cX9_join 86 = .ok (.if_icmp .ne 63, 3) := by decide +kernel
theorem dX9_join_89 : decode cX9_join 89 = .ok (.aload_n 0, 1) := by decide +kernel
theorem dX9_join_90 : decode cX9_join 90 = .ok (.iload_n 2, 1) := by decide +kernel
theorem dX9_join_91 : decode cX9_join 91 = .ok (.putfield 329, 3) := by decide +kernel
theorem dX9_join_94 : decode cX9_join 94 = .ok (.aload_n 0, 1) := by decide +kernel
theorem dX9_join_95 : decode cX9_join 95 = .ok (.lload_n 3, 1) := by decide +kernel
theorem dX9_join_96 : decode cX9_join 96 = .ok (.aload_n 0, 1) := by decide +kernel
theorem dX9_join_97 : decode cX9_join 97 = .ok (.getfield 109, 3) := by decide +kernel
theorem dX9_join_100 : decode cX9_join 100 = .ok (.iload_n 1, 1) := by decide +kernel
theorem dX9_join_101 : decode cX9_join 101 = .ok (.laload, 1) := by decide +kernel
theorem dX9_join_102 : decode cX9_join 102 = .ok (.lcmp, 1) := by decide +kernel
theorem dX9_join_103 : decode cX9_join 103 = .ok (.ifCond .ge 7, 3) := by decide +kernel
theorem dX9_join_106 : decode cX9_join 106 = .ok (.lload_n 3, 1) := by decide +kernel
theorem dX9_join_107 : decode cX9_join 107 = .ok (.goto 9, 3) := by decide +kernel
theorem dX9_join_110 : decode cX9_join 110 = .ok (.aload_n 0, 1) := by decide +kernel
theorem dX9_join_111 : decode cX9_join 111 = .ok (.getfield 109, 3) := by decide +kernel
theorem dX9_join_114 : decode cX9_join 114 = .ok (.iload_n 1, 1) := by decide +kernel
theorem dX9_join_115 : decode cX9_join 115 = .ok (.laload, 1) := by decide +kernel
theorem dX9_join_116 : decode cX9_join 116 = .ok (.putfield 332, 3) := by decide +kernel
theorem dX9_join_119 : decode cX9_join 119 = .ok (.aload_n 0, 1) := by decide +kernel
theorem dX9_join_120 : decode cX9_join 120 = .ok (.lload 5, 2) := by decide +kernel
theorem dX9_join_122 : decode cX9_join 122 = .ok (.aload_n 0, 1) := by decide +kernel
theorem dX9_join_123 : decode cX9_join 123 = .ok (.getfield 112, 3) := by decide +kernel
theorem dX9_join_126 : decode cX9_join 126 = .ok (.iload_n 1, 1) := by decide +kernel
theorem dX9_join_127 : decode cX9_join 127 = .ok (.laload, 1) := by decide +kernel
theorem dX9_join_128 : decode cX9_join 128 = .ok (.lcmp, 1) := by decide +kernel
theorem dX9_join_129 : decode cX9_join 129 = .ok (.ifCond .le 8, 3) := by decide +kernel
theorem dX9_join_132 : decode cX9_join 132 = .ok (.lload 5, 2) := by decide +kernel
theorem dX9_join_134 : decode cX9_join 134 = .ok (.goto 9, 3) := by decide +kernel
theorem dX9_join_137 : decode cX9_join 137 = .ok (.aload_n 0, 1) := by decide +kernel
theorem dX9_join_138 : decode cX9_join 138 = .ok (.getfield 112, 3) := by decide +kernel
theorem dX9_join_141 : decode cX9_join 141 = .ok (.iload_n 1, 1) := by decide +kernel
theorem dX9_join_142 : decode cX9_join 142 = .ok (.laload, 1) := by decide +kernel
theorem dX9_join_143 : decode cX9_join 143 = .ok (.putfield 335, 3) := by decide +kernel
theorem dX9_join_146 : decode cX9_join 146 = .ok (.goto 57, 3) := by decide +kernel
theorem dX9_join_149 : decode cX9_join 149 = .ok (.lload_n 3, 1) := by decide +kernel
theorem dX9_join_150 : decode cX9_join 150 = .ok (.aload_n 0, 1) := by decide +kernel
theorem dX9_join_151 : decode cX9_join 151 = .ok (.getfield 109, 3) := by decide +kernel
theorem dX9_join_154 : decode cX9_join 154 = .ok (.iload_n 1, 1) := by decide +kernel
theorem dX9_join_155 : decode cX9_join 155 = .ok (.laload, 1) := by decide +kernel
theorem dX9_join_156 : decode cX9_join 156 = .ok (.lcmp, 1) := by decide +kernel
theorem dX9_join_157 : decode cX9_join 157 = .ok (.ifCond .ne 46, 3) := by decide +kernel
theorem dX9_join_160 : decode cX9_join 160 = .ok (.iload 7, 2) := by decide +kernel
theorem dX9_join_162 : decode cX9_join 162 = .ok (.aload_n 0, 1) := by decide +kernel
theorem dX9_join_163 : decode cX9_join 163 = .ok (.getfield 115, 3) := by decide +kernel
theorem dX9_join_166 : decode cX9_join 166 = .ok (.iload_n 1, 1) := by decide +kernel
theorem dX9_join_167 : decode cX9_join 167 = .ok (.iaload, 1) := by decide +kernel
theorem dX9_join_168 : decode cX9_join 168 = .ok (.if_icmp .ne 35, 3) := by decide +kernel
theorem dX9_join_171 : decode cX9_join 171 = .ok (.iload 8, 2) := by decide +kernel
theorem dX9_join_173 : decode cX9_join 173 = .ok (.aload_n 0, 1) := by decide +kernel
theorem dX9_join_174 : decode cX9_join 174 = .ok (.getfield 118, 3) := by decide +kernel
theorem dX9_join_177 : decode cX9_join 177 = .ok (.iload_n 1, 1) := by decide +kernel
theorem dX9_join_178 : decode cX9_join 178 = .ok (.iaload, 1) := by decide +kernel
theorem dX9_join_179 : decode cX9_join 179 = .ok (.if_icmp .ne 24, 3) := by decide +kernel
theorem dX9_join_182 : decode cX9_join 182 = .ok (.iload_n 2, 1) := by decide +kernel
theorem dX9_join_183 : decode cX9_join 183 = .ok (.iconst 5, 1) := by decide +kernel
theorem dX9_join_184 : decode cX9_join 184 = .ok (.if_icmp .eq 19, 3) := by decide +kernel
theorem dX9_join_187 : decode cX9_join 187 = .ok (.aload_n 0, 1) := by decide +kernel
theorem dX9_join_188 : decode cX9_join 188 = .ok (.iload_n 2, 1) := by decide +kernel
theorem dX9_join_189 : decode cX9_join 189 = .ok (.putfield 329, 3) := by decide +kernel
theorem dX9_join_192 : decode cX9_join 192 = .ok (.aload_n 0, 1) := by decide +kernel
theorem dX9_join_193 : decode cX9_join 193 = .ok (.lload_n 3, 1) := by decide +kernel
theorem dX9_join_194 : decode cX9_join 194 = .ok (.putfield 332, 3) := by decide +kernel
theorem dX9_join_197 : decode cX9_join 197 = .ok (.aload_n 0, 1) := by decide +kernel
theorem dX9_join_198 : decode cX9_join 198 = .ok (.lload 5, 2) := by decide +kernel
theorem dX9_join_200 : decode cX9_join 200 = .ok (.putfield 335, 3) := by decide +kernel
theorem dX9_join_203 : decode cX9_join 203 = .ok (.return_, 1) := by decide +kernel
-- JudgedCodeModel.take
def f_X9_take_175 (S : sh) : Nat → Nat → Int32 → Int32 → dt → Option (Unit × dt)
  | 0, _, _, _, _ => none
  | n + 1, o0, x1, x2, D => if (512 : Int32) ≤ x2 then (some ((), D)) else (rq (gR D o0 45) fun o135 => rq (gR D o0 34) fun o139 => ix (((512 : Int32) * x1) + x2) (sA S o139) <| ix x2 (sA S o135) <| nm (pI D o135 x2.toNatClampNeg (vp_nar .boolean (gI D o139 (((512 : Int32) * x1) + x2).toNatClampNeg))) fun D145 => nm (x2 + 1) fun y146 => f_X9_take_175 S n o0 x1 y146 D145)
def f_X9_take_83 (S : sh) : Nat → Nat → Int32 → Int32 → dt → Option (Unit × dt)
  | 0, _, _, _, _ => none
  | n + 1, o0, x1, x2, D => if (64 : Int32) ≤ x2 then (nm ((0 : Int32)) fun y148 => f_X9_take_175 S LF o0 x1 y148 D) else (nm (((64 : Int32) * x1) + x2) fun y149 => nm ((11 : Int32) + x2) fun y150 => rq (gR D o0 40) fun o151 => rq (gR D o0 35) fun o155 => ix y149 (sA S o155) <| ix y150 (sA S o151) <| nm (pI D o151 y150.toNatClampNeg (gI D o155 y149.toNatClampNeg)) fun D161 => rq (gR D161 o0 41) fun o162 => rq (gR D161 o0 36) fun o166 => ix y149 (sA S o166) <| ix y150 (sA S o162) <| nm (pL D161 o162 y150.toNatClampNeg (gL D161 o166 y149.toNatClampNeg)) fun D172 => rq (gR D172 o0 42) fun o173 => rq (gR D172 o0 37) fun o177 => ix y149 (sA S o177) <| ix y150 (sA S o173) <| nm (pL D172 o173 y150.toNatClampNeg (gL D172 o177 y149.toNatClampNeg)) fun D183 => rq (gR D183 o0 43) fun o184 => rq (gR D183 o0 38) fun o188 => ix y149 (sA S o188) <| ix y150 (sA S o184) <| nm (pI D183 o184 y150.toNatClampNeg (gI D183 o188 y149.toNatClampNeg)) fun D194 => rq (gR D194 o0 44) fun o195 => rq (gR D194 o0 39) fun o199 => ix y149 (sA S o199) <| ix y150 (sA S o195) <| nm (pI D194 o195 y150.toNatClampNeg (gI D194 o199 y149.toNatClampNeg)) fun D205 => nm (x2 + 1) fun y206 => f_X9_take_83 S n o0 x1 y206 D205)
def f_X9_take_2 (S : sh) : Nat → Nat → Int32 → Int32 → dt → Option (Unit × dt)
  | 0, _, _, _, _ => none
  | n + 1, o0, x1, x2, D => if (11 : Int32) ≤ x2 then (nm ((0 : Int32)) fun y208 => f_X9_take_83 S LF o0 x1 y208 D) else (nm (((11 : Int32) * x1) + x2) fun y209 => rq (gR D o0 40) fun o210 => rq (gR D o0 29) fun o214 => ix y209 (sA S o214) <| ix x2 (sA S o210) <| nm (pI D o210 x2.toNatClampNeg (gI D o214 y209.toNatClampNeg)) fun D220 => rq (gR D220 o0 41) fun o221 => rq (gR D220 o0 30) fun o225 => ix y209 (sA S o225) <| ix x2 (sA S o221) <| nm (pL D220 o221 x2.toNatClampNeg (gL D220 o225 y209.toNatClampNeg)) fun D231 => rq (gR D231 o0 42) fun o232 => rq (gR D231 o0 31) fun o236 => ix y209 (sA S o236) <| ix x2 (sA S o232) <| nm (pL D231 o232 x2.toNatClampNeg (gL D231 o236 y209.toNatClampNeg)) fun D242 => rq (gR D242 o0 43) fun o243 => rq (gR D242 o0 32) fun o247 => ix y209 (sA S o247) <| ix x2 (sA S o243) <| nm (pI D242 o243 x2.toNatClampNeg (gI D242 o247 y209.toNatClampNeg)) fun D253 => rq (gR D253 o0 44) fun o254 => rq (gR D253 o0 33) fun o258 => ix y209 (sA S o258) <| ix x2 (sA S o254) <| nm (pI D253 o254 x2.toNatClampNeg (gI D253 o258 y209.toNatClampNeg)) fun D264 => nm (x2 + 1) fun y265 => f_X9_take_2 S n o0 x1 y265 D264)
def f_X9_take (S : sh) (o0 : Nat) (x1 : Int32) (D : dt) : Option (Unit × dt) := nm ((0 : Int32)) fun y266 => f_X9_take_2 S LF o0 x1 y266 D
-- JudgedCodeModel.copy
def f_X9_copy_109 (S : sh) : Nat → Nat → Int32 → Int32 → dt → Option (Unit × dt)
  | 0, _, _, _, _ => none
  | n + 1, o0, x3, x4, D => if (512 : Int32) ≤ x4 then (some ((), D)) else (rq (gR D o0 45) fun o75 => rq (gR D o0 45) fun o79 => ix (x3 + x4) (sA S o79) <| ix (((512 : Int32) - x3) + x4) (sA S o75) <| nm (pI D o75 (((512 : Int32) - x3) + x4).toNatClampNeg (vp_nar .boolean (gI D o79 (x3 + x4).toNatClampNeg))) fun D85 => nm (x4 + 1) fun y86 => f_X9_copy_109 S n o0 x3 y86 D85)
def f_X9_copy_105 (S : sh) (o0 : Nat) (xs0 : Int32) (D : dt) : Option (Unit × dt) := nm ((0 : Int32)) fun y87 => f_X9_copy_109 S LF o0 xs0 y87 D
def f_X9_copy_2 (S : sh) : Nat → Nat → Int32 → Int32 → Int32 → dt → Option (Unit × dt)
  | 0, _, _, _, _, _ => none
  | n + 1, o0, x1, x2, x3, D => if (75 : Int32) ≤ x3 then (if x1 = 0 then (f_X9_copy_105 S o0 (0 : Int32) D) else (f_X9_copy_105 S o0 (512 : Int32) D)) else (rq (gR D o0 40) fun o90 => rq (gR D o0 40) fun o94 => ix (x1 + x3) (sA S o94) <| ix (x2 + x3) (sA S o90) <| nm (pI D o90 (x2 + x3).toNatClampNeg (gI D o94 (x1 + x3).toNatClampNeg)) fun D100 => rq (gR D100 o0 41) fun o101 => rq (gR D100 o0 41) fun o105 => ix (x1 + x3) (sA S o105) <| ix (x2 + x3) (sA S o101) <| nm (pL D100 o101 (x2 + x3).toNatClampNeg (gL D100 o105 (x1 + x3).toNatClampNeg)) fun D111 => rq (gR D111 o0 42) fun o112 => rq (gR D111 o0 42) fun o116 => ix (x1 + x3) (sA S o116) <| ix (x2 + x3) (sA S o112) <| nm (pL D111 o112 (x2 + x3).toNatClampNeg (gL D111 o116 (x1 + x3).toNatClampNeg)) fun D122 => rq (gR D122 o0 43) fun o123 => rq (gR D122 o0 43) fun o127 => ix (x1 + x3) (sA S o127) <| ix (x2 + x3) (sA S o123) <| nm (pI D122 o123 (x2 + x3).toNatClampNeg (gI D122 o127 (x1 + x3).toNatClampNeg)) fun D133 => rq (gR D133 o0 44) fun o134 => rq (gR D133 o0 44) fun o138 => ix (x1 + x3) (sA S o138) <| ix (x2 + x3) (sA S o134) <| nm (pI D133 o134 (x2 + x3).toNatClampNeg (gI D133 o138 (x1 + x3).toNatClampNeg)) fun D144 => nm (x3 + 1) fun y145 => f_X9_copy_2 S n o0 x1 x2 y145 D144)
def f_X9_copy (S : sh) (o0 : Nat) (x1 : Int32) (x2 : Int32) (D : dt) : Option (Unit × dt) := nm ((0 : Int32)) fun y146 => f_X9_copy_2 S LF o0 x1 x2 y146 D
-- JudgedCodeModel.number
def f_X9_number (S : sh) (o0 : Nat) (x1 : Int32) (x2 : Int64) (x4 : Int64) (D : dt) : Option (Unit × dt) := rq (gR D o0 40) fun o31 => ix x1 (sA S o31) <| nm (pI D o31 x1.toNatClampNeg (1 : Int32)) fun D36 => rq (gR D36 o0 41) fun o37 => ix x1 (sA S o37) <| nm (pL D36 o37 x1.toNatClampNeg x2) fun D42 => rq (gR D42 o0 42) fun o43 => ix x1 (sA S o43) <| nm (pL D42 o43 x1.toNatClampNeg x4) fun D48 => rq (gR D48 o0 43) fun o49 => ix x1 (sA S o49) <| nm (pI D48 o49 x1.toNatClampNeg (0 : Int32)) fun D54 => rq (gR D54 o0 44) fun o55 => ix x1 (sA S o55) <| nm (pI D54 o55 x1.toNatClampNeg (0 : Int32)) fun D60 => some ((), D60)
-- JudgedCodeModel.forget
def f_X9_forget (S : sh) (o0 : Nat) (x1 : Int32) (D : dt) : Option (Unit × dt) := rq (gR D o0 40) fun o31 => ix x1 (sA S o31) <| nm (pI D o31 x1.toNatClampNeg (0 : Int32)) fun D36 => rq (gR D36 o0 41) fun o37 => ix x1 (sA S o37) <| nm (pL D36 o37 x1.toNatClampNeg (0 : Int64)) fun D42 => rq (gR D42 o0 42) fun o43 => ix x1 (sA S o43) <| nm (pL D42 o43 x1.toNatClampNeg (0 : Int64)) fun D48 => rq (gR D48 o0 43) fun o49 => ix x1 (sA S o49) <| nm (pI D48 o49 x1.toNatClampNeg (0 : Int32)) fun D54 => rq (gR D54 o0 44) fun o55 => ix x1 (sA S o55) <| nm (pI D54 o55 x1.toNatClampNeg (0 : Int32)) fun D60 => some ((), D60)
-- JudgedCodeModel.same
def f_X9_same (S : sh) (o0 : Nat) (x1 : Int32) (x2 : Int32) (D : dt) : Option (Unit × dt) := rq (gR D o0 40) fun o56 => rq (gR D o0 40) fun o60 => ix x1 (sA S o60) <| ix x2 (sA S o56) <| nm (pI D o56 x2.toNatClampNeg (gI D o60 x1.toNatClampNeg)) fun D66 => rq (gR D66 o0 41) fun o67 => rq (gR D66 o0 41) fun o71 => ix x1 (sA S o71) <| ix x2 (sA S o67) <| nm (pL D66 o67 x2.toNatClampNeg (gL D66 o71 x1.toNatClampNeg)) fun D77 => rq (gR D77 o0 42) fun o78 => rq (gR D77 o0 42) fun o82 => ix x1 (sA S o82) <| ix x2 (sA S o78) <| nm (pL D77 o78 x2.toNatClampNeg (gL D77 o82 x1.toNatClampNeg)) fun D88 => rq (gR D88 o0 43) fun o89 => rq (gR D88 o0 43) fun o93 => ix x1 (sA S o93) <| ix x2 (sA S o89) <| nm (pI D88 o89 x2.toNatClampNeg (gI D88 o93 x1.toNatClampNeg)) fun D99 => rq (gR D99 o0 44) fun o100 => rq (gR D99 o0 44) fun o104 => ix x1 (sA S o104) <| ix x2 (sA S o100) <| nm (pI D99 o100 x2.toNatClampNeg (gI D99 o104 x1.toNatClampNeg)) fun D110 => some ((), D110)
-- JudgedCodeModel.lesser
def f_X9_lesser (x0 : Int64) (x2 : Int64) : Option Int64 := pq (f_X9_isBelow x0 x2) fun r5 => if r5 = 0 then (some x2) else (some x0)
-- JudgedCodeModel.greater
def f_X9_greater (x0 : Int64) (x2 : Int64) : Option Int64 := pq (f_X9_isBelow x0 x2) fun r5 => if r5 = 0 then (some x0) else (some x2)
-- JudgedCodeModel.join
def f_X9_join_143 (S : sh) (os0 : Nat) (xs1 : Int64) (D : dt) : Option (Unit × dt) := nm (pL D os0 49 xs1) fun D83 => some ((), D83)
def f_X9_join_116 (S : sh) (o0 : Nat) (x1 : Int32) (x5 : Int64) (os0 : Nat) (xs1 : Int64) (D : dt) : Option (Unit × dt) := nm (pL D os0 48 xs1) fun D84 => rq (gR D84 o0 42) fun o85 => ix x1 (sA S o85) <| if (lg_cmp x5 (gL D84 o85 x1.toNatClampNeg)) ≤ 0 then (rq (gR D84 o0 42) fun o91 => ix x1 (sA S o91) <| f_X9_join_143 S o0 (gL D84 o91 x1.toNatClampNeg) D84) else (f_X9_join_143 S o0 x5 D84)
def f_X9_join_89 (S : sh) (o0 : Nat) (x1 : Int32) (x2 : Int32) (x3 : Int64) (x5 : Int64) (D : dt) : Option (Unit × dt) := nm (pI D o0 47 x2) fun D96 => rq (gR D96 o0 41) fun o97 => ix x1 (sA S o97) <| if 0 ≤ (lg_cmp x3 (gL D96 o97 x1.toNatClampNeg)) then (rq (gR D96 o0 41) fun o103 => ix x1 (sA S o103) <| f_X9_join_116 S o0 x1 x5 o0 (gL D96 o103 x1.toNatClampNeg) D96) else (f_X9_join_116 S o0 x1 x5 o0 x3 D96)
def f_X9_join_149 (S : sh) (o0 : Nat) (x1 : Int32) (x2 : Int32) (x3 : Int64) (x5 : Int64) (x7 : Int32) (x8 : Int32) (D : dt) : Option (Unit × dt) := rq (gR D o0 41) fun o108 => ix x1 (sA S o108) <| if (lg_cmp x3 (gL D o108 x1.toNatClampNeg)) = 0 then (rq (gR D o0 43) fun o114 => ix x1 (sA S o114) <| if x7 = (gI D o114 x1.toNatClampNeg) then (rq (gR D o0 44) fun o120 => ix x1 (sA S o120) <| if x8 = (gI D o120 x1.toNatClampNeg) then (if x2 = (5 : Int32) then (some ((), D)) else (nm (pI D o0 47 x2) fun D127 => nm (pL D127 o0 48 x3) fun D128 => nm (pL D128 o0 49 x5) fun D129 => some ((), D129))) else (some ((), D))) else (some ((), D))) else (some ((), D))
def f_X9_join (S : sh) (o0 : Nat) (x1 : Int32) (x2 : Int32) (x3 : Int64) (x5 : Int64) (x7 : Int32) (x8 : Int32) (D : dt) : Option (Unit × dt) := nm (pI D o0 47 (0 : Int32)) fun D130 => nm (pL D130 o0 48 (0 : Int64)) fun D131 => nm (pL D131 o0 49 (0 : Int64)) fun D132 => rq (gR D132 o0 40) fun o133 => ix x1 (sA S o133) <| if x2 = (gI D132 o133 x1.toNatClampNeg) then (if x2 = (1 : Int32) then (nm (pI D132 o0 47 (1 : Int32)) fun D148 => rq (gR D148 o0 41) fun o149 => ix x1 (sA S o149) <| pq (f_X9_lesser x3 (gL D148 o149 x1.toNatClampNeg)) fun r155 => nm (pL D148 o0 48 r155) fun D156 => rq (gR D156 o0 42) fun o157 => ix x1 (sA S o157) <| pq (f_X9_greater x5 (gL D156 o157 x1.toNatClampNeg)) fun r163 => nm (pL D156 o0 49 r163) fun D164 => some ((), D164)) else (if x2 = (2 : Int32) then (f_X9_join_89 S o0 x1 x2 x3 x5 D132) else (if x2 = (5 : Int32) then (rq (gR D132 o0 43) fun o142 => ix x1 (sA S o142) <| if x7 = (gI D132 o142 x1.toNatClampNeg) then (f_X9_join_89 S o0 x1 x2 x3 x5 D132) else (f_X9_join_149 S o0 x1 x2 x3 x5 x7 x8 D132)) else (f_X9_join_149 S o0 x1 x2 x3 x5 x7 x8 D132)))) else (some ((), D132))
theorem mk_X9_take : MkV yX9_take RX9 cX9_take 5 none 1 := ⟨⟨lk_1474, lk_88, lk_121, (tb_in (i := 1475) (by decide +kernel) (by decide +kernel))⟩, by decide +kernel⟩
theorem mk_X9_copy : MkV yX9_copy RX9 cX9_copy 5 none 2 := ⟨⟨lk_1533, lk_100, lk_121, (tb_in (i := 1534) (by decide +kernel) (by decide +kernel))⟩, by decide +kernel⟩
theorem mk_X9_number : MkV yX9_number RX9 cX9_number 6 none 3 := ⟨⟨lk_1498, lk_94, lk_121, (tb_in (i := 1499) (by decide +kernel) (by decide +kernel))⟩, by decide +kernel⟩
theorem mk_X9_forget : MkV yX9_forget RX9 cX9_forget 2 none 1 := ⟨⟨lk_1456, lk_85, lk_121, (tb_in (i := 1457) (by decide +kernel) (by decide +kernel))⟩, by decide +kernel⟩
theorem mk_X9_same : MkV yX9_same RX9 cX9_same 3 none 2 := ⟨⟨lk_1490, lk_92, lk_121, (tb_in (i := 1491) (by decide +kernel) (by decide +kernel))⟩, by decide +kernel⟩
theorem mk_X9_lesser : MkS yX9_lesser cX9_lesser 4 (some .long) 2 := ⟨⟨lk_1467, lk_121, (tb_in (i := 1468) (by decide +kernel) (by decide +kernel))⟩, by decide +kernel⟩
theorem mk_X9_greater : MkS yX9_greater cX9_greater 4 (some .long) 2 := ⟨⟨lk_1470, lk_121, (tb_in (i := 1471) (by decide +kernel) (by decide +kernel))⟩, by decide +kernel⟩
theorem mk_X9_join : MkV yX9_join RX9 cX9_join 9 none 6 := ⟨⟨lk_1464, lk_87, lk_121, (tb_in (i := 1465) (by decide +kernel) (by decide +kernel))⟩, by decide +kernel⟩
section
variable {p : Program} {l : Launch} {e : Env} {R : Room} {s : State} {m : MethodId} {args : Array Value} {below : List Frame} {meth : Method} {c : Code} {H : Heap} {locs : List Loc} {G : va_G} {cA : Nat → ClassId} {S : sh} {D : dt} {ad : Nat → Nat} {A : Nat → Prop}
set_option maxHeartbeats 4000000 in
set_option maxRecDepth 100000 in
theorem w_X9_take_175 {r : Unit} {D' : dt} (hC : Cx RX9 cX9_take 5 none p s m args meth c) (hR : 0 ≤ R.frames ∧ 0 ≤ R.locals) : ∀ (n : Nat), ∀ (o0 a0 : Nat) (x1 : Int32) (x2 : Int32) (D : dt) (H : Heap) (locs : List Loc) (ls : Array Slot), Is S ad o0 a0 8 → Wd G cA S D ad A s H locs → lv_has ls 5 [(0, .ref a0), (1, .int x1), (2, .int x2)] → f_X9_take_175 S n o0 x1 x2 D = some (r, D') → W p l e R s m args below meth c H locs 0 0 (MQ below (Qn none True (wpost G cA S D' ad A) A) args s 0 0 A) (F0 m 175 ls []) := by
  obtain ⟨hx, hb, -⟩ := id hC
  intro n
  induction n with
  | zero =>
    intro o0 a0 x1 x2 D H locs ls hi0 hw hl h
    rw [f_X9_take_175.eq_1] at h
    cases h
  | succ n ih =>
    intro o0 a0 x1 x2 D H locs ls hi0 hw hl h
    rw [f_X9_take_175.eq_2] at h
    refine lv_iload_n hx hb dX9_take_175 rfl (lv_at hl 2 rfl) ?_
    refine lv_sipush (v := 512) hx hb dX9_take_176 (by decide) ?_
    refine lv_icmp_ge (tgt := 206) hx hb dX9_take_179 (by decide) (fun c134 => ?_) (fun c134 => ?_)
    · have h := i_yes c134 h
      cases h
      exact r_vret hC hw dX9_take_206
    · have h := i_no c134 h
      refine lv_aload_n hx hb dX9_take_182 rfl (lv_at hl 0 rfl) ?_
      obtain ⟨o135, ho138, h⟩ := rq_i h
      refine r_getR hC hw kc_8 hi0 45 rfl lk_1117 dX9_take_183 rfl ho138 (fun a136 hi137 => ?_)
      refine lv_iload_n hx hb dX9_take_186 rfl (lv_at hl 2 rfl) ?_
      refine lv_aload_n hx hb dX9_take_187 rfl (lv_at hl 0 rfl) ?_
      obtain ⟨o139, ho142, h⟩ := rq_i h
      refine r_getR hC hw kc_8 hi0 34 rfl lk_1106 dX9_take_188 rfl ho142 (fun a140 hi141 => ?_)
      refine lv_sipush (v := 512) hx hb dX9_take_191 (by decide) ?_
      refine lv_iload_n hx hb dX9_take_194 rfl (lv_at hl 1 rfl) ?_
      refine lv_imul hx hb dX9_take_195 ?_
      refine lv_iload_n hx hb dX9_take_196 rfl (lv_at hl 2 rfl) ?_
      refine lv_iadd hx hb dX9_take_197 ?_
      obtain ⟨hn143, h⟩ := ix_i h
      refine r_zald hC hw hi141 hn143 dX9_take_198 ?_
      obtain ⟨hn144, h⟩ := ix_i h
      refine r_zas hC hw hi137 hn144 dX9_take_199 (fun D145 eD145 H locs hw => ?_)
      have h := nm_i h D145 eD145
      obtain ⟨y146, ey146⟩ : ∃ z : Int32, z = x2 + 1 := ⟨_, rfl⟩
      have h := nm_i h y146 ey146
      refine lv_iinc (v := y146) (lv' := [(2, .int y146), (0, .ref a0), (1, .int x1)]) hx hb dX9_take_200 hl (k := 2) rfl (by rw [ey146]; rfl) (by decide) rfl (fun ls hl => ?_)
      refine lv_goto (tgt := 175) hx hb dX9_take_203 (by decide) ?_
      exact ih o0 a0 x1 y146 _ _ _ _ hi0 hw (lv_sub hl [1, 2, 0] rfl) h
set_option maxHeartbeats 4000000 in
set_option maxRecDepth 100000 in
theorem w_X9_take_83 {r : Unit} {D' : dt} (hC : Cx RX9 cX9_take 5 none p s m args meth c) (hR : 0 ≤ R.frames ∧ 0 ≤ R.locals) : ∀ (n : Nat), ∀ (o0 a0 : Nat) (x1 : Int32) (x2 : Int32) (D : dt) (H : Heap) (locs : List Loc) (ls : Array Slot), Is S ad o0 a0 8 → Wd G cA S D ad A s H locs → lv_has ls 5 [(0, .ref a0), (1, .int x1), (2, .int x2)] → f_X9_take_83 S n o0 x1 x2 D = some (r, D') → W p l e R s m args below meth c H locs 0 0 (MQ below (Qn none True (wpost G cA S D' ad A) A) args s 0 0 A) (F0 m 83 ls []) := by
  obtain ⟨hx, hb, -⟩ := id hC
  intro n
  induction n with
  | zero =>
    intro o0 a0 x1 x2 D H locs ls hi0 hw hl h
    rw [f_X9_take_83.eq_1] at h
    cases h
  | succ n ih =>
    intro o0 a0 x1 x2 D H locs ls hi0 hw hl h
    rw [f_X9_take_83.eq_2] at h
    refine lv_iload_n hx hb dX9_take_83 rfl (lv_at hl 2 rfl) ?_
    refine lv_bipush (v := 64) hx hb dX9_take_84 (by decide) ?_
    refine lv_icmp_ge (tgt := 173) hx hb dX9_take_86 (by decide) (fun c147 => ?_) (fun c147 => ?_)
    · have h := i_yes c147 h
      refine lv_iconst (v := 0) hx hb dX9_take_173 (by decide) ?_
      refine lv_topi (fun y148 ey148 => ?_)
      have h := nm_i h y148 ey148
      refine lv_istore_n (lv' := [(2, .int y148), (0, .ref a0), (1, .int x1)]) hx hb dX9_take_174 rfl hl (by decide) rfl (fun ls hl => ?_)
      exact w_X9_take_175 hC hR LF o0 a0 x1 y148 _ _ _ _ hi0 hw (lv_sub hl [1, 2, 0] rfl) h
    · have h := i_no c147 h
      refine lv_bipush (v := 64) hx hb dX9_take_89 (by decide) ?_
      refine lv_iload_n hx hb dX9_take_91 rfl (lv_at hl 1 rfl) ?_
      refine lv_imul hx hb dX9_take_92 ?_
      refine lv_iload_n hx hb dX9_take_93 rfl (lv_at hl 2 rfl) ?_
      refine lv_iadd hx hb dX9_take_94 ?_
      refine lv_topi (fun y149 ey149 => ?_)
      have h := nm_i h y149 ey149
      refine lv_istore_n (lv' := [(3, .int y149), (0, .ref a0), (1, .int x1), (2, .int x2)]) hx hb dX9_take_95 rfl hl (by decide) rfl (fun ls hl => ?_)
      refine lv_bipush (v := 11) hx hb dX9_take_96 (by decide) ?_
      refine lv_iload_n hx hb dX9_take_98 rfl (lv_at hl 3 rfl) ?_
      refine lv_iadd hx hb dX9_take_99 ?_
      refine lv_topi (fun y150 ey150 => ?_)
      have h := nm_i h y150 ey150
      refine lv_istore (lv' := [(4, .int y150), (3, .int y149), (0, .ref a0), (1, .int x1), (2, .int x2)]) hx hb dX9_take_100 hl (by decide) rfl (fun ls hl => ?_)
      refine lv_aload_n hx hb dX9_take_102 rfl (lv_at hl 2 rfl) ?_
      obtain ⟨o151, ho154, h⟩ := rq_i h
      refine r_getR hC hw kc_8 hi0 40 rfl lk_1112 dX9_take_103 rfl ho154 (fun a152 hi153 => ?_)
      refine lv_iload hx hb dX9_take_106 (lv_at hl 0 rfl) ?_
      refine lv_aload_n hx hb dX9_take_108 rfl (lv_at hl 2 rfl) ?_
      obtain ⟨o155, ho158, h⟩ := rq_i h
      refine r_getR hC hw kc_8 hi0 35 rfl lk_1107 dX9_take_109 rfl ho158 (fun a156 hi157 => ?_)
      refine lv_iload_n hx hb dX9_take_112 rfl (lv_at hl 1 rfl) ?_
      obtain ⟨hn159, h⟩ := ix_i h
      refine r_iald hC hw hi157 hn159 dX9_take_113 ?_
      obtain ⟨hn160, h⟩ := ix_i h
      refine r_ias hC hw hi153 hn160 dX9_take_114 (fun D161 eD161 H locs hw => ?_)
      have h := nm_i h D161 eD161
      refine lv_aload_n hx hb dX9_take_115 rfl (lv_at hl 2 rfl) ?_
      obtain ⟨o162, ho165, h⟩ := rq_i h
      refine r_getR hC hw kc_8 hi0 41 rfl lk_1113 dX9_take_116 rfl ho165 (fun a163 hi164 => ?_)
      refine lv_iload hx hb dX9_take_119 (lv_at hl 0 rfl) ?_
      refine lv_aload_n hx hb dX9_take_121 rfl (lv_at hl 2 rfl) ?_
      obtain ⟨o166, ho169, h⟩ := rq_i h
      refine r_getR hC hw kc_8 hi0 36 rfl lk_1108 dX9_take_122 rfl ho169 (fun a167 hi168 => ?_)
      refine lv_iload_n hx hb dX9_take_125 rfl (lv_at hl 1 rfl) ?_
      obtain ⟨hn170, h⟩ := ix_i h
      refine r_lald hC hw hi168 hn170 dX9_take_126 ?_
      obtain ⟨hn171, h⟩ := ix_i h
      refine r_las hC hw hi164 hn171 dX9_take_127 (fun D172 eD172 H locs hw => ?_)
      have h := nm_i h D172 eD172
      refine lv_aload_n hx hb dX9_take_128 rfl (lv_at hl 2 rfl) ?_
      obtain ⟨o173, ho176, h⟩ := rq_i h
      refine r_getR hC hw kc_8 hi0 42 rfl lk_1114 dX9_take_129 rfl ho176 (fun a174 hi175 => ?_)
      refine lv_iload hx hb dX9_take_132 (lv_at hl 0 rfl) ?_
      refine lv_aload_n hx hb dX9_take_134 rfl (lv_at hl 2 rfl) ?_
      obtain ⟨o177, ho180, h⟩ := rq_i h
      refine r_getR hC hw kc_8 hi0 37 rfl lk_1109 dX9_take_135 rfl ho180 (fun a178 hi179 => ?_)
      refine lv_iload_n hx hb dX9_take_138 rfl (lv_at hl 1 rfl) ?_
      obtain ⟨hn181, h⟩ := ix_i h
      refine r_lald hC hw hi179 hn181 dX9_take_139 ?_
      obtain ⟨hn182, h⟩ := ix_i h
      refine r_las hC hw hi175 hn182 dX9_take_140 (fun D183 eD183 H locs hw => ?_)
      have h := nm_i h D183 eD183
      refine lv_aload_n hx hb dX9_take_141 rfl (lv_at hl 2 rfl) ?_
      obtain ⟨o184, ho187, h⟩ := rq_i h
      refine r_getR hC hw kc_8 hi0 43 rfl lk_1115 dX9_take_142 rfl ho187 (fun a185 hi186 => ?_)
      refine lv_iload hx hb dX9_take_145 (lv_at hl 0 rfl) ?_
      refine lv_aload_n hx hb dX9_take_147 rfl (lv_at hl 2 rfl) ?_
      obtain ⟨o188, ho191, h⟩ := rq_i h
      refine r_getR hC hw kc_8 hi0 38 rfl lk_1110 dX9_take_148 rfl ho191 (fun a189 hi190 => ?_)
      refine lv_iload_n hx hb dX9_take_151 rfl (lv_at hl 1 rfl) ?_
      obtain ⟨hn192, h⟩ := ix_i h
      refine r_iald hC hw hi190 hn192 dX9_take_152 ?_
      obtain ⟨hn193, h⟩ := ix_i h
      refine r_ias hC hw hi186 hn193 dX9_take_153 (fun D194 eD194 H locs hw => ?_)
      have h := nm_i h D194 eD194
      refine lv_aload_n hx hb dX9_take_154 rfl (lv_at hl 2 rfl) ?_
      obtain ⟨o195, ho198, h⟩ := rq_i h
      refine r_getR hC hw kc_8 hi0 44 rfl lk_1116 dX9_take_155 rfl ho198 (fun a196 hi197 => ?_)
      refine lv_iload hx hb dX9_take_158 (lv_at hl 0 rfl) ?_
      refine lv_aload_n hx hb dX9_take_160 rfl (lv_at hl 2 rfl) ?_
      obtain ⟨o199, ho202, h⟩ := rq_i h
      refine r_getR hC hw kc_8 hi0 39 rfl lk_1111 dX9_take_161 rfl ho202 (fun a200 hi201 => ?_)
      refine lv_iload_n hx hb dX9_take_164 rfl (lv_at hl 1 rfl) ?_
      obtain ⟨hn203, h⟩ := ix_i h
      refine r_iald hC hw hi201 hn203 dX9_take_165 ?_
      obtain ⟨hn204, h⟩ := ix_i h
      refine r_ias hC hw hi197 hn204 dX9_take_166 (fun D205 eD205 H locs hw => ?_)
      have h := nm_i h D205 eD205
      obtain ⟨y206, ey206⟩ : ∃ z : Int32, z = x2 + 1 := ⟨_, rfl⟩
      have h := nm_i h y206 ey206
      refine lv_iinc (v := y206) (lv' := [(2, .int y206), (4, .int y150), (3, .int y149), (0, .ref a0), (1, .int x1)]) hx hb dX9_take_167 hl (k := 4) rfl (by rw [ey206]; rfl) (by decide) rfl (fun ls hl => ?_)
      refine lv_goto (tgt := 83) hx hb dX9_take_170 (by decide) ?_
      exact ih o0 a0 x1 y206 _ _ _ _ hi0 hw (lv_sub hl [3, 4, 0] rfl) h
set_option maxHeartbeats 4000000 in
set_option maxRecDepth 100000 in
theorem w_X9_take_2 {r : Unit} {D' : dt} (hC : Cx RX9 cX9_take 5 none p s m args meth c) (hR : 0 ≤ R.frames ∧ 0 ≤ R.locals) : ∀ (n : Nat), ∀ (o0 a0 : Nat) (x1 : Int32) (x2 : Int32) (D : dt) (H : Heap) (locs : List Loc) (ls : Array Slot), Is S ad o0 a0 8 → Wd G cA S D ad A s H locs → lv_has ls 5 [(0, .ref a0), (1, .int x1), (2, .int x2)] → f_X9_take_2 S n o0 x1 x2 D = some (r, D') → W p l e R s m args below meth c H locs 0 0 (MQ below (Qn none True (wpost G cA S D' ad A) A) args s 0 0 A) (F0 m 2 ls []) := by
  obtain ⟨hx, hb, -⟩ := id hC
  intro n
  induction n with
  | zero =>
    intro o0 a0 x1 x2 D H locs ls hi0 hw hl h
    rw [f_X9_take_2.eq_1] at h
    cases h
  | succ n ih =>
    intro o0 a0 x1 x2 D H locs ls hi0 hw hl h
    rw [f_X9_take_2.eq_2] at h
    refine lv_iload_n hx hb dX9_take_2 rfl (lv_at hl 2 rfl) ?_
    refine lv_bipush (v := 11) hx hb dX9_take_3 (by decide) ?_
    refine lv_icmp_ge (tgt := 81) hx hb dX9_take_5 (by decide) (fun c207 => ?_) (fun c207 => ?_)
    · have h := i_yes c207 h
      refine lv_iconst (v := 0) hx hb dX9_take_81 (by decide) ?_
      refine lv_topi (fun y208 ey208 => ?_)
      have h := nm_i h y208 ey208
      refine lv_istore_n (lv' := [(2, .int y208), (0, .ref a0), (1, .int x1)]) hx hb dX9_take_82 rfl hl (by decide) rfl (fun ls hl => ?_)
      exact w_X9_take_83 hC hR LF o0 a0 x1 y208 _ _ _ _ hi0 hw (lv_sub hl [1, 2, 0] rfl) h
    · have h := i_no c207 h
      refine lv_bipush (v := 11) hx hb dX9_take_8 (by decide) ?_
      refine lv_iload_n hx hb dX9_take_10 rfl (lv_at hl 1 rfl) ?_
      refine lv_imul hx hb dX9_take_11 ?_
      refine lv_iload_n hx hb dX9_take_12 rfl (lv_at hl 2 rfl) ?_
      refine lv_iadd hx hb dX9_take_13 ?_
      refine lv_topi (fun y209 ey209 => ?_)
      have h := nm_i h y209 ey209
      refine lv_istore_n (lv' := [(3, .int y209), (0, .ref a0), (1, .int x1), (2, .int x2)]) hx hb dX9_take_14 rfl hl (by decide) rfl (fun ls hl => ?_)
      refine lv_aload_n hx hb dX9_take_15 rfl (lv_at hl 1 rfl) ?_
      obtain ⟨o210, ho213, h⟩ := rq_i h
      refine r_getR hC hw kc_8 hi0 40 rfl lk_1112 dX9_take_16 rfl ho213 (fun a211 hi212 => ?_)
      refine lv_iload_n hx hb dX9_take_19 rfl (lv_at hl 3 rfl) ?_
      refine lv_aload_n hx hb dX9_take_20 rfl (lv_at hl 1 rfl) ?_
      obtain ⟨o214, ho217, h⟩ := rq_i h
      refine r_getR hC hw kc_8 hi0 29 rfl lk_1101 dX9_take_21 rfl ho217 (fun a215 hi216 => ?_)
      refine lv_iload_n hx hb dX9_take_24 rfl (lv_at hl 0 rfl) ?_
      obtain ⟨hn218, h⟩ := ix_i h
      refine r_iald hC hw hi216 hn218 dX9_take_25 ?_
      obtain ⟨hn219, h⟩ := ix_i h
      refine r_ias hC hw hi212 hn219 dX9_take_26 (fun D220 eD220 H locs hw => ?_)
      have h := nm_i h D220 eD220
      refine lv_aload_n hx hb dX9_take_27 rfl (lv_at hl 1 rfl) ?_
      obtain ⟨o221, ho224, h⟩ := rq_i h
      refine r_getR hC hw kc_8 hi0 41 rfl lk_1113 dX9_take_28 rfl ho224 (fun a222 hi223 => ?_)
      refine lv_iload_n hx hb dX9_take_31 rfl (lv_at hl 3 rfl) ?_
      refine lv_aload_n hx hb dX9_take_32 rfl (lv_at hl 1 rfl) ?_
      obtain ⟨o225, ho228, h⟩ := rq_i h
      refine r_getR hC hw kc_8 hi0 30 rfl lk_1102 dX9_take_33 rfl ho228 (fun a226 hi227 => ?_)
      refine lv_iload_n hx hb dX9_take_36 rfl (lv_at hl 0 rfl) ?_
      obtain ⟨hn229, h⟩ := ix_i h
      refine r_lald hC hw hi227 hn229 dX9_take_37 ?_
      obtain ⟨hn230, h⟩ := ix_i h
      refine r_las hC hw hi223 hn230 dX9_take_38 (fun D231 eD231 H locs hw => ?_)
      have h := nm_i h D231 eD231
      refine lv_aload_n hx hb dX9_take_39 rfl (lv_at hl 1 rfl) ?_
      obtain ⟨o232, ho235, h⟩ := rq_i h
      refine r_getR hC hw kc_8 hi0 42 rfl lk_1114 dX9_take_40 rfl ho235 (fun a233 hi234 => ?_)
      refine lv_iload_n hx hb dX9_take_43 rfl (lv_at hl 3 rfl) ?_
      refine lv_aload_n hx hb dX9_take_44 rfl (lv_at hl 1 rfl) ?_
      obtain ⟨o236, ho239, h⟩ := rq_i h
      refine r_getR hC hw kc_8 hi0 31 rfl lk_1103 dX9_take_45 rfl ho239 (fun a237 hi238 => ?_)
      refine lv_iload_n hx hb dX9_take_48 rfl (lv_at hl 0 rfl) ?_
      obtain ⟨hn240, h⟩ := ix_i h
      refine r_lald hC hw hi238 hn240 dX9_take_49 ?_
      obtain ⟨hn241, h⟩ := ix_i h
      refine r_las hC hw hi234 hn241 dX9_take_50 (fun D242 eD242 H locs hw => ?_)
      have h := nm_i h D242 eD242
      refine lv_aload_n hx hb dX9_take_51 rfl (lv_at hl 1 rfl) ?_
      obtain ⟨o243, ho246, h⟩ := rq_i h
      refine r_getR hC hw kc_8 hi0 43 rfl lk_1115 dX9_take_52 rfl ho246 (fun a244 hi245 => ?_)
      refine lv_iload_n hx hb dX9_take_55 rfl (lv_at hl 3 rfl) ?_
      refine lv_aload_n hx hb dX9_take_56 rfl (lv_at hl 1 rfl) ?_
      obtain ⟨o247, ho250, h⟩ := rq_i h
      refine r_getR hC hw kc_8 hi0 32 rfl lk_1104 dX9_take_57 rfl ho250 (fun a248 hi249 => ?_)
      refine lv_iload_n hx hb dX9_take_60 rfl (lv_at hl 0 rfl) ?_
      obtain ⟨hn251, h⟩ := ix_i h
      refine r_iald hC hw hi249 hn251 dX9_take_61 ?_
      obtain ⟨hn252, h⟩ := ix_i h
      refine r_ias hC hw hi245 hn252 dX9_take_62 (fun D253 eD253 H locs hw => ?_)
      have h := nm_i h D253 eD253
      refine lv_aload_n hx hb dX9_take_63 rfl (lv_at hl 1 rfl) ?_
      obtain ⟨o254, ho257, h⟩ := rq_i h
      refine r_getR hC hw kc_8 hi0 44 rfl lk_1116 dX9_take_64 rfl ho257 (fun a255 hi256 => ?_)
      refine lv_iload_n hx hb dX9_take_67 rfl (lv_at hl 3 rfl) ?_
      refine lv_aload_n hx hb dX9_take_68 rfl (lv_at hl 1 rfl) ?_
      obtain ⟨o258, ho261, h⟩ := rq_i h
      refine r_getR hC hw kc_8 hi0 33 rfl lk_1105 dX9_take_69 rfl ho261 (fun a259 hi260 => ?_)
      refine lv_iload_n hx hb dX9_take_72 rfl (lv_at hl 0 rfl) ?_
      obtain ⟨hn262, h⟩ := ix_i h
      refine r_iald hC hw hi260 hn262 dX9_take_73 ?_
      obtain ⟨hn263, h⟩ := ix_i h
      refine r_ias hC hw hi256 hn263 dX9_take_74 (fun D264 eD264 H locs hw => ?_)
      have h := nm_i h D264 eD264
      obtain ⟨y265, ey265⟩ : ∃ z : Int32, z = x2 + 1 := ⟨_, rfl⟩
      have h := nm_i h y265 ey265
      refine lv_iinc (v := y265) (lv' := [(2, .int y265), (3, .int y209), (0, .ref a0), (1, .int x1)]) hx hb dX9_take_75 hl (k := 3) rfl (by rw [ey265]; rfl) (by decide) rfl (fun ls hl => ?_)
      refine lv_goto (tgt := 2) hx hb dX9_take_78 (by decide) ?_
      exact ih o0 a0 x1 y265 _ _ _ _ hi0 hw (lv_sub hl [2, 3, 0] rfl) h
set_option maxHeartbeats 4000000 in
set_option maxRecDepth 100000 in
theorem w_X9_take_0 {r : Unit} {D' : dt} (hC : Cx RX9 cX9_take 5 none p s m args meth c) (hR : 0 ≤ R.frames ∧ 0 ≤ R.locals) : ∀ (o0 a0 : Nat) (x1 : Int32) (D : dt) (H : Heap) (locs : List Loc) (ls : Array Slot), Is S ad o0 a0 8 → Wd G cA S D ad A s H locs → lv_has ls 5 [(0, .ref a0), (1, .int x1)] → f_X9_take S o0 x1 D = some (r, D') → W p l e R s m args below meth c H locs 0 0 (MQ below (Qn none True (wpost G cA S D' ad A) A) args s 0 0 A) (F0 m 0 ls []) := by
  obtain ⟨hx, hb, -⟩ := id hC
  intro o0 a0 x1 D H locs ls hi0 hw hl h
  unfold f_X9_take at h
  refine lv_iconst (v := 0) hx hb dX9_take_0 (by decide) ?_
  refine lv_topi (fun y266 ey266 => ?_)
  have h := nm_i h y266 ey266
  refine lv_istore_n (lv' := [(2, .int y266), (0, .ref a0), (1, .int x1)]) hx hb dX9_take_1 rfl hl (by decide) rfl (fun ls hl => ?_)
  exact w_X9_take_2 hC hR LF o0 a0 x1 y266 _ _ _ _ hi0 hw (lv_sub hl [1, 2, 0] rfl) h
set_option maxHeartbeats 4000000 in
set_option maxRecDepth 100000 in
theorem k_X9_take {l : Launch} {G : va_G} {cA : Nat → ClassId} {S : sh} {D D' : dt} {ad : Nat → Nat} (sz : Nat) {o0 a0 : Nat} {x1 : Int32} {r : Unit} (hi0 : Is S ad o0 a0 8) (h : f_X9_take S o0 x1 D = some (r, D')) : Co l yX9_take (Cond.code yX9_take cX9_take 5 none :: tb0) 0 0 [.ref a0, .int x1] G cA S D ad sz none True D' := by
  refine Met.ofW (cc := cX9_take) (maxL := 5) (ret := none) (by decide) rfl ?_
  intro p e s m args below meth c s₁ B hml hv
  obtain ⟨rfl, hsz, hP, hK, hD0, hT, hX⟩ := hv
  subst hsz
  have hts := atoms_spec (ws := Cond.code yX9_take cX9_take 5 none :: tb0) B.pre
  have hC : Cx RX9 cX9_take 5 none p s m _ meth c := ⟨B.exec, B.bytes, hml, findClass_of_methodNamed B.named, fun w q => hts w (List.mem_cons_of_mem _ q), B.returns, B.notSynchronized⟩
  have hw := Wd.entry hP hK hD0 hT hX
  have hl := lv_entry ([.ref a0, .int x1]) (n := 5) (Nat.le_of_ble_eq_true rfl)
  rw [lg_entry_eq]
  exact w_X9_take_0 hC ⟨Nat.le_refl _, Nat.le_refl _⟩ o0 a0 x1 D _ _ _ hi0 hw hl h
set_option maxHeartbeats 4000000 in
set_option maxRecDepth 100000 in
theorem w_X9_copy_109 {r : Unit} {D' : dt} (hC : Cx RX9 cX9_copy 5 none p s m args meth c) (hR : 0 ≤ R.frames ∧ 0 ≤ R.locals) : ∀ (n : Nat), ∀ (o0 a0 : Nat) (x3 : Int32) (x4 : Int32) (D : dt) (H : Heap) (locs : List Loc) (ls : Array Slot), Is S ad o0 a0 8 → Wd G cA S D ad A s H locs → lv_has ls 5 [(0, .ref a0), (3, .int x3), (4, .int x4)] → f_X9_copy_109 S n o0 x3 x4 D = some (r, D') → W p l e R s m args below meth c H locs 0 0 (MQ below (Qn none True (wpost G cA S D' ad A) A) args s 0 0 A) (F0 m 109 ls []) := by
  obtain ⟨hx, hb, -⟩ := id hC
  intro n
  induction n with
  | zero =>
    intro o0 a0 x3 x4 D H locs ls hi0 hw hl h
    rw [f_X9_copy_109.eq_1] at h
    cases h
  | succ n ih =>
    intro o0 a0 x3 x4 D H locs ls hi0 hw hl h
    rw [f_X9_copy_109.eq_2] at h
    refine lv_iload hx hb dX9_copy_109 (lv_at hl 2 rfl) ?_
    refine lv_sipush (v := 512) hx hb dX9_copy_111 (by decide) ?_
    refine lv_icmp_ge (tgt := 145) hx hb dX9_copy_114 (by decide) (fun c74 => ?_) (fun c74 => ?_)
    · have h := i_yes c74 h
      cases h
      exact r_vret hC hw dX9_copy_145
    · have h := i_no c74 h
      refine lv_aload_n hx hb dX9_copy_117 rfl (lv_at hl 0 rfl) ?_
      obtain ⟨o75, ho78, h⟩ := rq_i h
      refine r_getR hC hw kc_8 hi0 45 rfl lk_1117 dX9_copy_118 rfl ho78 (fun a76 hi77 => ?_)
      refine lv_sipush (v := 512) hx hb dX9_copy_121 (by decide) ?_
      refine lv_iload_n hx hb dX9_copy_124 rfl (lv_at hl 1 rfl) ?_
      refine lv_isub hx hb dX9_copy_125 ?_
      refine lv_iload hx hb dX9_copy_126 (lv_at hl 2 rfl) ?_
      refine lv_iadd hx hb dX9_copy_128 ?_
      refine lv_aload_n hx hb dX9_copy_129 rfl (lv_at hl 0 rfl) ?_
      obtain ⟨o79, ho82, h⟩ := rq_i h
      refine r_getR hC hw kc_8 hi0 45 rfl lk_1117 dX9_copy_130 rfl ho82 (fun a80 hi81 => ?_)
      refine lv_iload_n hx hb dX9_copy_133 rfl (lv_at hl 1 rfl) ?_
      refine lv_iload hx hb dX9_copy_134 (lv_at hl 2 rfl) ?_
      refine lv_iadd hx hb dX9_copy_136 ?_
      obtain ⟨hn83, h⟩ := ix_i h
      refine r_zald hC hw hi81 hn83 dX9_copy_137 ?_
      obtain ⟨hn84, h⟩ := ix_i h
      refine r_zas hC hw hi77 hn84 dX9_copy_138 (fun D85 eD85 H locs hw => ?_)
      have h := nm_i h D85 eD85
      obtain ⟨y86, ey86⟩ : ∃ z : Int32, z = x4 + 1 := ⟨_, rfl⟩
      have h := nm_i h y86 ey86
      refine lv_iinc (v := y86) (lv' := [(4, .int y86), (0, .ref a0), (3, .int x3)]) hx hb dX9_copy_139 hl (k := 2) rfl (by rw [ey86]; rfl) (by decide) rfl (fun ls hl => ?_)
      refine lv_goto (tgt := 109) hx hb dX9_copy_142 (by decide) ?_
      exact ih o0 a0 x3 y86 _ _ _ _ hi0 hw (lv_sub hl [1, 2, 0] rfl) h
set_option maxHeartbeats 4000000 in
set_option maxRecDepth 100000 in
theorem w_X9_copy_105 {r : Unit} {D' : dt} (hC : Cx RX9 cX9_copy 5 none p s m args meth c) (hR : 0 ≤ R.frames ∧ 0 ≤ R.locals) : ∀ (o0 a0 : Nat) (xs0 : Int32) (D : dt) (H : Heap) (locs : List Loc) (ls : Array Slot), Is S ad o0 a0 8 → Wd G cA S D ad A s H locs → lv_has ls 5 [(0, .ref a0)] → f_X9_copy_105 S o0 xs0 D = some (r, D') → W p l e R s m args below meth c H locs 0 0 (MQ below (Qn none True (wpost G cA S D' ad A) A) args s 0 0 A) (F0 m 105 ls [.int xs0]) := by
  obtain ⟨hx, hb, -⟩ := id hC
  intro o0 a0 xs0 D H locs ls hi0 hw hl h
  unfold f_X9_copy_105 at h
  refine lv_istore_n (lv' := [(3, .int xs0), (0, .ref a0)]) hx hb dX9_copy_105 rfl hl (by decide) rfl (fun ls hl => ?_)
  refine lv_iconst (v := 0) hx hb dX9_copy_106 (by decide) ?_
  refine lv_topi (fun y87 ey87 => ?_)
  have h := nm_i h y87 ey87
  refine lv_istore (lv' := [(4, .int y87), (3, .int xs0), (0, .ref a0)]) hx hb dX9_copy_107 hl (by decide) rfl (fun ls hl => ?_)
  exact w_X9_copy_109 hC hR LF o0 a0 xs0 y87 _ _ _ _ hi0 hw (lv_sub hl [2, 1, 0] rfl) h
set_option maxHeartbeats 4000000 in
set_option maxRecDepth 100000 in
theorem w_X9_copy_2 {r : Unit} {D' : dt} (hC : Cx RX9 cX9_copy 5 none p s m args meth c) (hR : 0 ≤ R.frames ∧ 0 ≤ R.locals) : ∀ (n : Nat), ∀ (o0 a0 : Nat) (x1 : Int32) (x2 : Int32) (x3 : Int32) (D : dt) (H : Heap) (locs : List Loc) (ls : Array Slot), Is S ad o0 a0 8 → Wd G cA S D ad A s H locs → lv_has ls 5 [(0, .ref a0), (1, .int x1), (2, .int x2), (3, .int x3)] → f_X9_copy_2 S n o0 x1 x2 x3 D = some (r, D') → W p l e R s m args below meth c H locs 0 0 (MQ below (Qn none True (wpost G cA S D' ad A) A) args s 0 0 A) (F0 m 2 ls []) := by
  obtain ⟨hx, hb, -⟩ := id hC
  intro n
  induction n with
  | zero =>
    intro o0 a0 x1 x2 x3 D H locs ls hi0 hw hl h
    rw [f_X9_copy_2.eq_1] at h
    cases h
  | succ n ih =>
    intro o0 a0 x1 x2 x3 D H locs ls hi0 hw hl h
    rw [f_X9_copy_2.eq_2] at h
    refine lv_iload_n hx hb dX9_copy_2 rfl (lv_at hl 3 rfl) ?_
    refine lv_bipush (v := 75) hx hb dX9_copy_3 (by decide) ?_
    refine lv_icmp_ge (tgt := 94) hx hb dX9_copy_5 (by decide) (fun c88 => ?_) (fun c88 => ?_)
    · have h := i_yes c88 h
      refine lv_iload_n hx hb dX9_copy_94 rfl (lv_at hl 1 rfl) ?_
      refine lv_if_ne (tgt := 102) hx hb dX9_copy_95 (by decide) (fun c89 => ?_) (fun c89 => ?_)
      · have h := i_no c89 h
        refine lv_sipush (v := 512) hx hb dX9_copy_102 (by decide) ?_
        exact w_X9_copy_105 hC hR o0 a0 (512 : Int32) _ _ _ _ hi0 hw (lv_sub hl [0] rfl) h
      · have h := i_yes c89 h
        refine lv_iconst (v := 0) hx hb dX9_copy_98 (by decide) ?_
        refine lv_goto (tgt := 105) hx hb dX9_copy_99 (by decide) ?_
        exact w_X9_copy_105 hC hR o0 a0 (0 : Int32) _ _ _ _ hi0 hw (lv_sub hl [0] rfl) h
    · have h := i_no c88 h
      refine lv_aload_n hx hb dX9_copy_8 rfl (lv_at hl 0 rfl) ?_
      obtain ⟨o90, ho93, h⟩ := rq_i h
      refine r_getR hC hw kc_8 hi0 40 rfl lk_1112 dX9_copy_9 rfl ho93 (fun a91 hi92 => ?_)
      refine lv_iload_n hx hb dX9_copy_12 rfl (lv_at hl 2 rfl) ?_
      refine lv_iload_n hx hb dX9_copy_13 rfl (lv_at hl 3 rfl) ?_
      refine lv_iadd hx hb dX9_copy_14 ?_
      refine lv_aload_n hx hb dX9_copy_15 rfl (lv_at hl 0 rfl) ?_
      obtain ⟨o94, ho97, h⟩ := rq_i h
      refine r_getR hC hw kc_8 hi0 40 rfl lk_1112 dX9_copy_16 rfl ho97 (fun a95 hi96 => ?_)
      refine lv_iload_n hx hb dX9_copy_19 rfl (lv_at hl 1 rfl) ?_
      refine lv_iload_n hx hb dX9_copy_20 rfl (lv_at hl 3 rfl) ?_
      refine lv_iadd hx hb dX9_copy_21 ?_
      obtain ⟨hn98, h⟩ := ix_i h
      refine r_iald hC hw hi96 hn98 dX9_copy_22 ?_
      obtain ⟨hn99, h⟩ := ix_i h
      refine r_ias hC hw hi92 hn99 dX9_copy_23 (fun D100 eD100 H locs hw => ?_)
      have h := nm_i h D100 eD100
      refine lv_aload_n hx hb dX9_copy_24 rfl (lv_at hl 0 rfl) ?_
      obtain ⟨o101, ho104, h⟩ := rq_i h
      refine r_getR hC hw kc_8 hi0 41 rfl lk_1113 dX9_copy_25 rfl ho104 (fun a102 hi103 => ?_)
      refine lv_iload_n hx hb dX9_copy_28 rfl (lv_at hl 2 rfl) ?_
      refine lv_iload_n hx hb dX9_copy_29 rfl (lv_at hl 3 rfl) ?_
      refine lv_iadd hx hb dX9_copy_30 ?_
      refine lv_aload_n hx hb dX9_copy_31 rfl (lv_at hl 0 rfl) ?_
      obtain ⟨o105, ho108, h⟩ := rq_i h
      refine r_getR hC hw kc_8 hi0 41 rfl lk_1113 dX9_copy_32 rfl ho108 (fun a106 hi107 => ?_)
      refine lv_iload_n hx hb dX9_copy_35 rfl (lv_at hl 1 rfl) ?_
      refine lv_iload_n hx hb dX9_copy_36 rfl (lv_at hl 3 rfl) ?_
      refine lv_iadd hx hb dX9_copy_37 ?_
      obtain ⟨hn109, h⟩ := ix_i h
      refine r_lald hC hw hi107 hn109 dX9_copy_38 ?_
      obtain ⟨hn110, h⟩ := ix_i h
      refine r_las hC hw hi103 hn110 dX9_copy_39 (fun D111 eD111 H locs hw => ?_)
      have h := nm_i h D111 eD111
      refine lv_aload_n hx hb dX9_copy_40 rfl (lv_at hl 0 rfl) ?_
      obtain ⟨o112, ho115, h⟩ := rq_i h
      refine r_getR hC hw kc_8 hi0 42 rfl lk_1114 dX9_copy_41 rfl ho115 (fun a113 hi114 => ?_)
      refine lv_iload_n hx hb dX9_copy_44 rfl (lv_at hl 2 rfl) ?_
      refine lv_iload_n hx hb dX9_copy_45 rfl (lv_at hl 3 rfl) ?_
      refine lv_iadd hx hb dX9_copy_46 ?_
      refine lv_aload_n hx hb dX9_copy_47 rfl (lv_at hl 0 rfl) ?_
      obtain ⟨o116, ho119, h⟩ := rq_i h
      refine r_getR hC hw kc_8 hi0 42 rfl lk_1114 dX9_copy_48 rfl ho119 (fun a117 hi118 => ?_)
      refine lv_iload_n hx hb dX9_copy_51 rfl (lv_at hl 1 rfl) ?_
      refine lv_iload_n hx hb dX9_copy_52 rfl (lv_at hl 3 rfl) ?_
      refine lv_iadd hx hb dX9_copy_53 ?_
      obtain ⟨hn120, h⟩ := ix_i h
      refine r_lald hC hw hi118 hn120 dX9_copy_54 ?_
      obtain ⟨hn121, h⟩ := ix_i h
      refine r_las hC hw hi114 hn121 dX9_copy_55 (fun D122 eD122 H locs hw => ?_)
      have h := nm_i h D122 eD122
      refine lv_aload_n hx hb dX9_copy_56 rfl (lv_at hl 0 rfl) ?_
      obtain ⟨o123, ho126, h⟩ := rq_i h
      refine r_getR hC hw kc_8 hi0 43 rfl lk_1115 dX9_copy_57 rfl ho126 (fun a124 hi125 => ?_)
      refine lv_iload_n hx hb dX9_copy_60 rfl (lv_at hl 2 rfl) ?_
      refine lv_iload_n hx hb dX9_copy_61 rfl (lv_at hl 3 rfl) ?_
      refine lv_iadd hx hb dX9_copy_62 ?_
      refine lv_aload_n hx hb dX9_copy_63 rfl (lv_at hl 0 rfl) ?_
      obtain ⟨o127, ho130, h⟩ := rq_i h
      refine r_getR hC hw kc_8 hi0 43 rfl lk_1115 dX9_copy_64 rfl ho130 (fun a128 hi129 => ?_)
      refine lv_iload_n hx hb dX9_copy_67 rfl (lv_at hl 1 rfl) ?_
      refine lv_iload_n hx hb dX9_copy_68 rfl (lv_at hl 3 rfl) ?_
      refine lv_iadd hx hb dX9_copy_69 ?_
      obtain ⟨hn131, h⟩ := ix_i h
      refine r_iald hC hw hi129 hn131 dX9_copy_70 ?_
      obtain ⟨hn132, h⟩ := ix_i h
      refine r_ias hC hw hi125 hn132 dX9_copy_71 (fun D133 eD133 H locs hw => ?_)
      have h := nm_i h D133 eD133
      refine lv_aload_n hx hb dX9_copy_72 rfl (lv_at hl 0 rfl) ?_
      obtain ⟨o134, ho137, h⟩ := rq_i h
      refine r_getR hC hw kc_8 hi0 44 rfl lk_1116 dX9_copy_73 rfl ho137 (fun a135 hi136 => ?_)
      refine lv_iload_n hx hb dX9_copy_76 rfl (lv_at hl 2 rfl) ?_
      refine lv_iload_n hx hb dX9_copy_77 rfl (lv_at hl 3 rfl) ?_
      refine lv_iadd hx hb dX9_copy_78 ?_
      refine lv_aload_n hx hb dX9_copy_79 rfl (lv_at hl 0 rfl) ?_
      obtain ⟨o138, ho141, h⟩ := rq_i h
      refine r_getR hC hw kc_8 hi0 44 rfl lk_1116 dX9_copy_80 rfl ho141 (fun a139 hi140 => ?_)
      refine lv_iload_n hx hb dX9_copy_83 rfl (lv_at hl 1 rfl) ?_
      refine lv_iload_n hx hb dX9_copy_84 rfl (lv_at hl 3 rfl) ?_
      refine lv_iadd hx hb dX9_copy_85 ?_
      obtain ⟨hn142, h⟩ := ix_i h
      refine r_iald hC hw hi140 hn142 dX9_copy_86 ?_
      obtain ⟨hn143, h⟩ := ix_i h
      refine r_ias hC hw hi136 hn143 dX9_copy_87 (fun D144 eD144 H locs hw => ?_)
      have h := nm_i h D144 eD144
      obtain ⟨y145, ey145⟩ : ∃ z : Int32, z = x3 + 1 := ⟨_, rfl⟩
      have h := nm_i h y145 ey145
      refine lv_iinc (v := y145) (lv' := [(3, .int y145), (0, .ref a0), (1, .int x1), (2, .int x2)]) hx hb dX9_copy_88 hl (k := 3) rfl (by rw [ey145]; rfl) (by decide) rfl (fun ls hl => ?_)
      refine lv_goto (tgt := 2) hx hb dX9_copy_91 (by decide) ?_
      exact ih o0 a0 x1 x2 y145 _ _ _ _ hi0 hw (lv_sub hl [1, 2, 3, 0] rfl) h
set_option maxHeartbeats 4000000 in
set_option maxRecDepth 100000 in
theorem w_X9_copy_0 {r : Unit} {D' : dt} (hC : Cx RX9 cX9_copy 5 none p s m args meth c) (hR : 0 ≤ R.frames ∧ 0 ≤ R.locals) : ∀ (o0 a0 : Nat) (x1 : Int32) (x2 : Int32) (D : dt) (H : Heap) (locs : List Loc) (ls : Array Slot), Is S ad o0 a0 8 → Wd G cA S D ad A s H locs → lv_has ls 5 [(0, .ref a0), (1, .int x1), (2, .int x2)] → f_X9_copy S o0 x1 x2 D = some (r, D') → W p l e R s m args below meth c H locs 0 0 (MQ below (Qn none True (wpost G cA S D' ad A) A) args s 0 0 A) (F0 m 0 ls []) := by
  obtain ⟨hx, hb, -⟩ := id hC
  intro o0 a0 x1 x2 D H locs ls hi0 hw hl h
  unfold f_X9_copy at h
  refine lv_iconst (v := 0) hx hb dX9_copy_0 (by decide) ?_
  refine lv_topi (fun y146 ey146 => ?_)
  have h := nm_i h y146 ey146
  refine lv_istore_n (lv' := [(3, .int y146), (0, .ref a0), (1, .int x1), (2, .int x2)]) hx hb dX9_copy_1 rfl hl (by decide) rfl (fun ls hl => ?_)
  exact w_X9_copy_2 hC hR LF o0 a0 x1 x2 y146 _ _ _ _ hi0 hw (lv_sub hl [1, 2, 3, 0] rfl) h
set_option maxHeartbeats 4000000 in
set_option maxRecDepth 100000 in
theorem k_X9_copy {l : Launch} {G : va_G} {cA : Nat → ClassId} {S : sh} {D D' : dt} {ad : Nat → Nat} (sz : Nat) {o0 a0 : Nat} {x1 : Int32} {x2 : Int32} {r : Unit} (hi0 : Is S ad o0 a0 8) (h : f_X9_copy S o0 x1 x2 D = some (r, D')) : Co l yX9_copy (Cond.code yX9_copy cX9_copy 5 none :: tb0) 0 0 [.ref a0, .int x1, .int x2] G cA S D ad sz none True D' := by
  refine Met.ofW (cc := cX9_copy) (maxL := 5) (ret := none) (by decide) rfl ?_
  intro p e s m args below meth c s₁ B hml hv
  obtain ⟨rfl, hsz, hP, hK, hD0, hT, hX⟩ := hv
  subst hsz
  have hts := atoms_spec (ws := Cond.code yX9_copy cX9_copy 5 none :: tb0) B.pre
  have hC : Cx RX9 cX9_copy 5 none p s m _ meth c := ⟨B.exec, B.bytes, hml, findClass_of_methodNamed B.named, fun w q => hts w (List.mem_cons_of_mem _ q), B.returns, B.notSynchronized⟩
  have hw := Wd.entry hP hK hD0 hT hX
  have hl := lv_entry ([.ref a0, .int x1, .int x2]) (n := 5) (Nat.le_of_ble_eq_true rfl)
  rw [lg_entry_eq]
  exact w_X9_copy_0 hC ⟨Nat.le_refl _, Nat.le_refl _⟩ o0 a0 x1 x2 D _ _ _ hi0 hw hl h
set_option maxHeartbeats 4000000 in
set_option maxRecDepth 100000 in
theorem w_X9_number_0 {r : Unit} {D' : dt} (hC : Cx RX9 cX9_number 6 none p s m args meth c) (hR : 0 ≤ R.frames ∧ 0 ≤ R.locals) : ∀ (o0 a0 : Nat) (x1 : Int32) (x2 : Int64) (x4 : Int64) (D : dt) (H : Heap) (locs : List Loc) (ls : Array Slot), Is S ad o0 a0 8 → Wd G cA S D ad A s H locs → lv_has ls 6 [(0, .ref a0), (1, .int x1), (2, .long x2), (4, .long x4)] → f_X9_number S o0 x1 x2 x4 D = some (r, D') → W p l e R s m args below meth c H locs 0 0 (MQ below (Qn none True (wpost G cA S D' ad A) A) args s 0 0 A) (F0 m 0 ls []) := by
  obtain ⟨hx, hb, -⟩ := id hC
  intro o0 a0 x1 x2 x4 D H locs ls hi0 hw hl h
  unfold f_X9_number at h
  refine lv_aload_n hx hb dX9_number_0 rfl (lv_at hl 0 rfl) ?_
  obtain ⟨o31, ho34, h⟩ := rq_i h
  refine r_getR hC hw kc_8 hi0 40 rfl lk_1112 dX9_number_1 rfl ho34 (fun a32 hi33 => ?_)
  refine lv_iload_n hx hb dX9_number_4 rfl (lv_at hl 1 rfl) ?_
  refine lv_iconst (v := 1) hx hb dX9_number_5 (by decide) ?_
  obtain ⟨hn35, h⟩ := ix_i h
  refine r_ias hC hw hi33 hn35 dX9_number_6 (fun D36 eD36 H locs hw => ?_)
  have h := nm_i h D36 eD36
  refine lv_aload_n hx hb dX9_number_7 rfl (lv_at hl 0 rfl) ?_
  obtain ⟨o37, ho40, h⟩ := rq_i h
  refine r_getR hC hw kc_8 hi0 41 rfl lk_1113 dX9_number_8 rfl ho40 (fun a38 hi39 => ?_)
  refine lv_iload_n hx hb dX9_number_11 rfl (lv_at hl 1 rfl) ?_
  refine lv_lload_n hx hb dX9_number_12 rfl (lv_at hl 2 rfl) ?_
  obtain ⟨hn41, h⟩ := ix_i h
  refine r_las hC hw hi39 hn41 dX9_number_13 (fun D42 eD42 H locs hw => ?_)
  have h := nm_i h D42 eD42
  refine lv_aload_n hx hb dX9_number_14 rfl (lv_at hl 0 rfl) ?_
  obtain ⟨o43, ho46, h⟩ := rq_i h
  refine r_getR hC hw kc_8 hi0 42 rfl lk_1114 dX9_number_15 rfl ho46 (fun a44 hi45 => ?_)
  refine lv_iload_n hx hb dX9_number_18 rfl (lv_at hl 1 rfl) ?_
  refine lv_lload hx hb dX9_number_19 (lv_at hl 3 rfl) ?_
  obtain ⟨hn47, h⟩ := ix_i h
  refine r_las hC hw hi45 hn47 dX9_number_21 (fun D48 eD48 H locs hw => ?_)
  have h := nm_i h D48 eD48
  refine lv_aload_n hx hb dX9_number_22 rfl (lv_at hl 0 rfl) ?_
  obtain ⟨o49, ho52, h⟩ := rq_i h
  refine r_getR hC hw kc_8 hi0 43 rfl lk_1115 dX9_number_23 rfl ho52 (fun a50 hi51 => ?_)
  refine lv_iload_n hx hb dX9_number_26 rfl (lv_at hl 1 rfl) ?_
  refine lv_iconst (v := 0) hx hb dX9_number_27 (by decide) ?_
  obtain ⟨hn53, h⟩ := ix_i h
  refine r_ias hC hw hi51 hn53 dX9_number_28 (fun D54 eD54 H locs hw => ?_)
  have h := nm_i h D54 eD54
  refine lv_aload_n hx hb dX9_number_29 rfl (lv_at hl 0 rfl) ?_
  obtain ⟨o55, ho58, h⟩ := rq_i h
  refine r_getR hC hw kc_8 hi0 44 rfl lk_1116 dX9_number_30 rfl ho58 (fun a56 hi57 => ?_)
  refine lv_iload_n hx hb dX9_number_33 rfl (lv_at hl 1 rfl) ?_
  refine lv_iconst (v := 0) hx hb dX9_number_34 (by decide) ?_
  obtain ⟨hn59, h⟩ := ix_i h
  refine r_ias hC hw hi57 hn59 dX9_number_35 (fun D60 eD60 H locs hw => ?_)
  have h := nm_i h D60 eD60
  cases h
  exact r_vret hC hw dX9_number_36
set_option maxHeartbeats 4000000 in
set_option maxRecDepth 100000 in
theorem k_X9_number {l : Launch} {G : va_G} {cA : Nat → ClassId} {S : sh} {D D' : dt} {ad : Nat → Nat} (sz : Nat) {o0 a0 : Nat} {x1 : Int32} {x2 : Int64} {x4 : Int64} {r : Unit} (hi0 : Is S ad o0 a0 8) (h : f_X9_number S o0 x1 x2 x4 D = some (r, D')) : Co l yX9_number (Cond.code yX9_number cX9_number 6 none :: tb0) 0 0 [.ref a0, .int x1, .long x2, .long x4] G cA S D ad sz none True D' := by
  refine Met.ofW (cc := cX9_number) (maxL := 6) (ret := none) (by decide) rfl ?_
  intro p e s m args below meth c s₁ B hml hv
  obtain ⟨rfl, hsz, hP, hK, hD0, hT, hX⟩ := hv
  subst hsz
  have hts := atoms_spec (ws := Cond.code yX9_number cX9_number 6 none :: tb0) B.pre
  have hC : Cx RX9 cX9_number 6 none p s m _ meth c := ⟨B.exec, B.bytes, hml, findClass_of_methodNamed B.named, fun w q => hts w (List.mem_cons_of_mem _ q), B.returns, B.notSynchronized⟩
  have hw := Wd.entry hP hK hD0 hT hX
  have hl := lv_entry ([.ref a0, .int x1, .long x2, .long x4]) (n := 6) (Nat.le_of_ble_eq_true rfl)
  rw [lg_entry_eq]
  exact w_X9_number_0 hC ⟨Nat.le_refl _, Nat.le_refl _⟩ o0 a0 x1 x2 x4 D _ _ _ hi0 hw hl h
set_option maxHeartbeats 4000000 in
set_option maxRecDepth 100000 in
theorem w_X9_forget_0 {r : Unit} {D' : dt} (hC : Cx RX9 cX9_forget 2 none p s m args meth c) (hR : 0 ≤ R.frames ∧ 0 ≤ R.locals) : ∀ (o0 a0 : Nat) (x1 : Int32) (D : dt) (H : Heap) (locs : List Loc) (ls : Array Slot), Is S ad o0 a0 8 → Wd G cA S D ad A s H locs → lv_has ls 2 [(0, .ref a0), (1, .int x1)] → f_X9_forget S o0 x1 D = some (r, D') → W p l e R s m args below meth c H locs 0 0 (MQ below (Qn none True (wpost G cA S D' ad A) A) args s 0 0 A) (F0 m 0 ls []) := by
  obtain ⟨hx, hb, -⟩ := id hC
  intro o0 a0 x1 D H locs ls hi0 hw hl h
  unfold f_X9_forget at h
  refine lv_aload_n hx hb dX9_forget_0 rfl (lv_at hl 0 rfl) ?_
  obtain ⟨o31, ho34, h⟩ := rq_i h
  refine r_getR hC hw kc_8 hi0 40 rfl lk_1112 dX9_forget_1 rfl ho34 (fun a32 hi33 => ?_)
  refine lv_iload_n hx hb dX9_forget_4 rfl (lv_at hl 1 rfl) ?_
  refine lv_iconst (v := 0) hx hb dX9_forget_5 (by decide) ?_
  obtain ⟨hn35, h⟩ := ix_i h
  refine r_ias hC hw hi33 hn35 dX9_forget_6 (fun D36 eD36 H locs hw => ?_)
  have h := nm_i h D36 eD36
  refine lv_aload_n hx hb dX9_forget_7 rfl (lv_at hl 0 rfl) ?_
  obtain ⟨o37, ho40, h⟩ := rq_i h
  refine r_getR hC hw kc_8 hi0 41 rfl lk_1113 dX9_forget_8 rfl ho40 (fun a38 hi39 => ?_)
  refine lv_iload_n hx hb dX9_forget_11 rfl (lv_at hl 1 rfl) ?_
  refine lv_lconst (v := 0) hx hb dX9_forget_12 (by decide) ?_
  obtain ⟨hn41, h⟩ := ix_i h
  refine r_las hC hw hi39 hn41 dX9_forget_13 (fun D42 eD42 H locs hw => ?_)
  have h := nm_i h D42 eD42
  refine lv_aload_n hx hb dX9_forget_14 rfl (lv_at hl 0 rfl) ?_
  obtain ⟨o43, ho46, h⟩ := rq_i h
  refine r_getR hC hw kc_8 hi0 42 rfl lk_1114 dX9_forget_15 rfl ho46 (fun a44 hi45 => ?_)
  refine lv_iload_n hx hb dX9_forget_18 rfl (lv_at hl 1 rfl) ?_
  refine lv_lconst (v := 0) hx hb dX9_forget_19 (by decide) ?_
  obtain ⟨hn47, h⟩ := ix_i h
  refine r_las hC hw hi45 hn47 dX9_forget_20 (fun D48 eD48 H locs hw => ?_)
  have h := nm_i h D48 eD48
  refine lv_aload_n hx hb dX9_forget_21 rfl (lv_at hl 0 rfl) ?_
  obtain ⟨o49, ho52, h⟩ := rq_i h
  refine r_getR hC hw kc_8 hi0 43 rfl lk_1115 dX9_forget_22 rfl ho52 (fun a50 hi51 => ?_)
  refine lv_iload_n hx hb dX9_forget_25 rfl (lv_at hl 1 rfl) ?_
  refine lv_iconst (v := 0) hx hb dX9_forget_26 (by decide) ?_
  obtain ⟨hn53, h⟩ := ix_i h
  refine r_ias hC hw hi51 hn53 dX9_forget_27 (fun D54 eD54 H locs hw => ?_)
  have h := nm_i h D54 eD54
  refine lv_aload_n hx hb dX9_forget_28 rfl (lv_at hl 0 rfl) ?_
  obtain ⟨o55, ho58, h⟩ := rq_i h
  refine r_getR hC hw kc_8 hi0 44 rfl lk_1116 dX9_forget_29 rfl ho58 (fun a56 hi57 => ?_)
  refine lv_iload_n hx hb dX9_forget_32 rfl (lv_at hl 1 rfl) ?_
  refine lv_iconst (v := 0) hx hb dX9_forget_33 (by decide) ?_
  obtain ⟨hn59, h⟩ := ix_i h
  refine r_ias hC hw hi57 hn59 dX9_forget_34 (fun D60 eD60 H locs hw => ?_)
  have h := nm_i h D60 eD60
  cases h
  exact r_vret hC hw dX9_forget_35
set_option maxHeartbeats 4000000 in
set_option maxRecDepth 100000 in
theorem k_X9_forget {l : Launch} {G : va_G} {cA : Nat → ClassId} {S : sh} {D D' : dt} {ad : Nat → Nat} (sz : Nat) {o0 a0 : Nat} {x1 : Int32} {r : Unit} (hi0 : Is S ad o0 a0 8) (h : f_X9_forget S o0 x1 D = some (r, D')) : Co l yX9_forget (Cond.code yX9_forget cX9_forget 2 none :: tb0) 0 0 [.ref a0, .int x1] G cA S D ad sz none True D' := by
  refine Met.ofW (cc := cX9_forget) (maxL := 2) (ret := none) (by decide) rfl ?_
  intro p e s m args below meth c s₁ B hml hv
  obtain ⟨rfl, hsz, hP, hK, hD0, hT, hX⟩ := hv
  subst hsz
  have hts := atoms_spec (ws := Cond.code yX9_forget cX9_forget 2 none :: tb0) B.pre
  have hC : Cx RX9 cX9_forget 2 none p s m _ meth c := ⟨B.exec, B.bytes, hml, findClass_of_methodNamed B.named, fun w q => hts w (List.mem_cons_of_mem _ q), B.returns, B.notSynchronized⟩
  have hw := Wd.entry hP hK hD0 hT hX
  have hl := lv_entry ([.ref a0, .int x1]) (n := 2) (Nat.le_of_ble_eq_true rfl)
  rw [lg_entry_eq]
  exact w_X9_forget_0 hC ⟨Nat.le_refl _, Nat.le_refl _⟩ o0 a0 x1 D _ _ _ hi0 hw hl h
set_option maxHeartbeats 4000000 in
set_option maxRecDepth 100000 in
theorem w_X9_same_0 {r : Unit} {D' : dt} (hC : Cx RX9 cX9_same 3 none p s m args meth c) (hR : 0 ≤ R.frames ∧ 0 ≤ R.locals) : ∀ (o0 a0 : Nat) (x1 : Int32) (x2 : Int32) (D : dt) (H : Heap) (locs : List Loc) (ls : Array Slot), Is S ad o0 a0 8 → Wd G cA S D ad A s H locs → lv_has ls 3 [(0, .ref a0), (1, .int x1), (2, .int x2)] → f_X9_same S o0 x1 x2 D = some (r, D') → W p l e R s m args below meth c H locs 0 0 (MQ below (Qn none True (wpost G cA S D' ad A) A) args s 0 0 A) (F0 m 0 ls []) := by
  obtain ⟨hx, hb, -⟩ := id hC
  intro o0 a0 x1 x2 D H locs ls hi0 hw hl h
  unfold f_X9_same at h
  refine lv_aload_n hx hb dX9_same_0 rfl (lv_at hl 0 rfl) ?_
  obtain ⟨o56, ho59, h⟩ := rq_i h
  refine r_getR hC hw kc_8 hi0 40 rfl lk_1112 dX9_same_1 rfl ho59 (fun a57 hi58 => ?_)
  refine lv_iload_n hx hb dX9_same_4 rfl (lv_at hl 2 rfl) ?_
  refine lv_aload_n hx hb dX9_same_5 rfl (lv_at hl 0 rfl) ?_
  obtain ⟨o60, ho63, h⟩ := rq_i h
  refine r_getR hC hw kc_8 hi0 40 rfl lk_1112 dX9_same_6 rfl ho63 (fun a61 hi62 => ?_)
  refine lv_iload_n hx hb dX9_same_9 rfl (lv_at hl 1 rfl) ?_
  obtain ⟨hn64, h⟩ := ix_i h
  refine r_iald hC hw hi62 hn64 dX9_same_10 ?_
  obtain ⟨hn65, h⟩ := ix_i h
  refine r_ias hC hw hi58 hn65 dX9_same_11 (fun D66 eD66 H locs hw => ?_)
  have h := nm_i h D66 eD66
  refine lv_aload_n hx hb dX9_same_12 rfl (lv_at hl 0 rfl) ?_
  obtain ⟨o67, ho70, h⟩ := rq_i h
  refine r_getR hC hw kc_8 hi0 41 rfl lk_1113 dX9_same_13 rfl ho70 (fun a68 hi69 => ?_)
  refine lv_iload_n hx hb dX9_same_16 rfl (lv_at hl 2 rfl) ?_
  refine lv_aload_n hx hb dX9_same_17 rfl (lv_at hl 0 rfl) ?_
  obtain ⟨o71, ho74, h⟩ := rq_i h
  refine r_getR hC hw kc_8 hi0 41 rfl lk_1113 dX9_same_18 rfl ho74 (fun a72 hi73 => ?_)
  refine lv_iload_n hx hb dX9_same_21 rfl (lv_at hl 1 rfl) ?_
  obtain ⟨hn75, h⟩ := ix_i h
  refine r_lald hC hw hi73 hn75 dX9_same_22 ?_
  obtain ⟨hn76, h⟩ := ix_i h
  refine r_las hC hw hi69 hn76 dX9_same_23 (fun D77 eD77 H locs hw => ?_)
  have h := nm_i h D77 eD77
  refine lv_aload_n hx hb dX9_same_24 rfl (lv_at hl 0 rfl) ?_
  obtain ⟨o78, ho81, h⟩ := rq_i h
  refine r_getR hC hw kc_8 hi0 42 rfl lk_1114 dX9_same_25 rfl ho81 (fun a79 hi80 => ?_)
  refine lv_iload_n hx hb dX9_same_28 rfl (lv_at hl 2 rfl) ?_
  refine lv_aload_n hx hb dX9_same_29 rfl (lv_at hl 0 rfl) ?_
  obtain ⟨o82, ho85, h⟩ := rq_i h
  refine r_getR hC hw kc_8 hi0 42 rfl lk_1114 dX9_same_30 rfl ho85 (fun a83 hi84 => ?_)
  refine lv_iload_n hx hb dX9_same_33 rfl (lv_at hl 1 rfl) ?_
  obtain ⟨hn86, h⟩ := ix_i h
  refine r_lald hC hw hi84 hn86 dX9_same_34 ?_
  obtain ⟨hn87, h⟩ := ix_i h
  refine r_las hC hw hi80 hn87 dX9_same_35 (fun D88 eD88 H locs hw => ?_)
  have h := nm_i h D88 eD88
  refine lv_aload_n hx hb dX9_same_36 rfl (lv_at hl 0 rfl) ?_
  obtain ⟨o89, ho92, h⟩ := rq_i h
  refine r_getR hC hw kc_8 hi0 43 rfl lk_1115 dX9_same_37 rfl ho92 (fun a90 hi91 => ?_)
  refine lv_iload_n hx hb dX9_same_40 rfl (lv_at hl 2 rfl) ?_
  refine lv_aload_n hx hb dX9_same_41 rfl (lv_at hl 0 rfl) ?_
  obtain ⟨o93, ho96, h⟩ := rq_i h
  refine r_getR hC hw kc_8 hi0 43 rfl lk_1115 dX9_same_42 rfl ho96 (fun a94 hi95 => ?_)
  refine lv_iload_n hx hb dX9_same_45 rfl (lv_at hl 1 rfl) ?_
  obtain ⟨hn97, h⟩ := ix_i h
  refine r_iald hC hw hi95 hn97 dX9_same_46 ?_
  obtain ⟨hn98, h⟩ := ix_i h
  refine r_ias hC hw hi91 hn98 dX9_same_47 (fun D99 eD99 H locs hw => ?_)
  have h := nm_i h D99 eD99
  refine lv_aload_n hx hb dX9_same_48 rfl (lv_at hl 0 rfl) ?_
  obtain ⟨o100, ho103, h⟩ := rq_i h
  refine r_getR hC hw kc_8 hi0 44 rfl lk_1116 dX9_same_49 rfl ho103 (fun a101 hi102 => ?_)
  refine lv_iload_n hx hb dX9_same_52 rfl (lv_at hl 2 rfl) ?_
  refine lv_aload_n hx hb dX9_same_53 rfl (lv_at hl 0 rfl) ?_
  obtain ⟨o104, ho107, h⟩ := rq_i h
  refine r_getR hC hw kc_8 hi0 44 rfl lk_1116 dX9_same_54 rfl ho107 (fun a105 hi106 => ?_)
  refine lv_iload_n hx hb dX9_same_57 rfl (lv_at hl 1 rfl) ?_
  obtain ⟨hn108, h⟩ := ix_i h
  refine r_iald hC hw hi106 hn108 dX9_same_58 ?_
  obtain ⟨hn109, h⟩ := ix_i h
  refine r_ias hC hw hi102 hn109 dX9_same_59 (fun D110 eD110 H locs hw => ?_)
  have h := nm_i h D110 eD110
  cases h
  exact r_vret hC hw dX9_same_60
set_option maxHeartbeats 4000000 in
set_option maxRecDepth 100000 in
theorem k_X9_same {l : Launch} {G : va_G} {cA : Nat → ClassId} {S : sh} {D D' : dt} {ad : Nat → Nat} (sz : Nat) {o0 a0 : Nat} {x1 : Int32} {x2 : Int32} {r : Unit} (hi0 : Is S ad o0 a0 8) (h : f_X9_same S o0 x1 x2 D = some (r, D')) : Co l yX9_same (Cond.code yX9_same cX9_same 3 none :: tb0) 0 0 [.ref a0, .int x1, .int x2] G cA S D ad sz none True D' := by
  refine Met.ofW (cc := cX9_same) (maxL := 3) (ret := none) (by decide) rfl ?_
  intro p e s m args below meth c s₁ B hml hv
  obtain ⟨rfl, hsz, hP, hK, hD0, hT, hX⟩ := hv
  subst hsz
  have hts := atoms_spec (ws := Cond.code yX9_same cX9_same 3 none :: tb0) B.pre
  have hC : Cx RX9 cX9_same 3 none p s m _ meth c := ⟨B.exec, B.bytes, hml, findClass_of_methodNamed B.named, fun w q => hts w (List.mem_cons_of_mem _ q), B.returns, B.notSynchronized⟩
  have hw := Wd.entry hP hK hD0 hT hX
  have hl := lv_entry ([.ref a0, .int x1, .int x2]) (n := 3) (Nat.le_of_ble_eq_true rfl)
  rw [lg_entry_eq]
  exact w_X9_same_0 hC ⟨Nat.le_refl _, Nat.le_refl _⟩ o0 a0 x1 x2 D _ _ _ hi0 hw hl h
set_option maxHeartbeats 4000000 in
set_option maxRecDepth 100000 in
theorem w_X9_lesser_0 {r : Int64} (hC : Cx RX9 cX9_lesser 4 (some .long) p s m args meth c) (hR : 1 ≤ R.frames ∧ 23 ≤ R.locals) : ∀ (x0 : Int64) (x2 : Int64) (H : Heap) (locs : List Loc) (ls : Array Slot), Wd G cA S D ad A s H locs → lv_has ls 4 [(0, .long x0), (2, .long x2)] → f_X9_lesser x0 x2 = some r → W p l e R s m args below meth c H locs 0 0 (MQ below (Qn (some (.long r)) True (wpost G cA S D ad A) A) args s 0 0 A) (F0 m 0 ls []) := by
  obtain ⟨hx, hb, -⟩ := id hC
  intro x0 x2 H locs ls hw hl h
  unfold f_X9_lesser at h
  refine lv_lload_n hx hb dX9_lesser_0 rfl (lv_at hl 0 rfl) ?_
  refine lv_lload_n hx hb dX9_lesser_1 rfl (lv_at hl 1 rfl) ?_
  obtain ⟨r5, hq4, h⟩ := pq_i h
  refine r_cS (st' := [.int r5]) [.long x0, .long x2] [] hC hw (k_X9_isBelow _ hq4) mk_X9_isBelow lk_1358 ⟨Nat.le_trans (by decide) hR.1, Nat.le_trans (by decide) hR.2⟩ ⟨Nat.zero_le _, Nat.zero_le _⟩ rfl hl.1 rfl rfl (Nat.le_of_ble_eq_true rfl) dX9_lesser_2 (fun hP H locs hw => ?_)
  refine lv_if_eq (tgt := 12) hx hb dX9_lesser_5 (by decide) (fun c6 => ?_) (fun c6 => ?_)
  · have h := i_yes c6 h
    refine lv_lload_n hx hb dX9_lesser_12 rfl (lv_at hl 1 rfl) ?_
    cases h
    exact r_lret hC hw dX9_lesser_13
  · have h := i_no c6 h
    refine lv_lload_n hx hb dX9_lesser_8 rfl (lv_at hl 0 rfl) ?_
    refine lv_goto (tgt := 13) hx hb dX9_lesser_9 (by decide) ?_
    cases h
    exact r_lret hC hw dX9_lesser_13
set_option maxHeartbeats 4000000 in
set_option maxRecDepth 100000 in
theorem k_X9_lesser {l : Launch} {G : va_G} {cA : Nat → ClassId} {S : sh} {D : dt} {ad : Nat → Nat} (sz : Nat) {x0 : Int64} {x2 : Int64} {r : Int64}  (h : f_X9_lesser x0 x2 = some r) : Co l yX9_lesser (Cond.code yX9_lesser cX9_lesser 4 (some .long) :: tb0) 1 23 [.long x0, .long x2] G cA S D ad sz (some (.long r)) True D := by
  refine Met.ofW (cc := cX9_lesser) (maxL := 4) (ret := (some .long)) (by decide) rfl ?_
  intro p e s m args below meth c s₁ B hml hv
  obtain ⟨rfl, hsz, hP, hK, hD0, hT, hX⟩ := hv
  subst hsz
  have hts := atoms_spec (ws := Cond.code yX9_lesser cX9_lesser 4 (some .long) :: tb0) B.pre
  have hC : Cx RX9 cX9_lesser 4 (some .long) p s m _ meth c := ⟨B.exec, B.bytes, hml, findClass_of_methodNamed B.named, fun w q => hts w (List.mem_cons_of_mem _ q), B.returns, B.notSynchronized⟩
  have hw := Wd.entry hP hK hD0 hT hX
  have hl := lv_entry ([.long x0, .long x2]) (n := 4) (Nat.le_of_ble_eq_true rfl)
  rw [lg_entry_eq]
  exact w_X9_lesser_0 hC ⟨Nat.le_refl _, Nat.le_refl _⟩ x0 x2 _ _ _ hw hl h
set_option maxHeartbeats 4000000 in
set_option maxRecDepth 100000 in
theorem w_X9_greater_0 {r : Int64} (hC : Cx RX9 cX9_greater 4 (some .long) p s m args meth c) (hR : 1 ≤ R.frames ∧ 23 ≤ R.locals) : ∀ (x0 : Int64) (x2 : Int64) (H : Heap) (locs : List Loc) (ls : Array Slot), Wd G cA S D ad A s H locs → lv_has ls 4 [(0, .long x0), (2, .long x2)] → f_X9_greater x0 x2 = some r → W p l e R s m args below meth c H locs 0 0 (MQ below (Qn (some (.long r)) True (wpost G cA S D ad A) A) args s 0 0 A) (F0 m 0 ls []) := by
  obtain ⟨hx, hb, -⟩ := id hC
  intro x0 x2 H locs ls hw hl h
  unfold f_X9_greater at h
  refine lv_lload_n hx hb dX9_greater_0 rfl (lv_at hl 0 rfl) ?_
  refine lv_lload_n hx hb dX9_greater_1 rfl (lv_at hl 1 rfl) ?_
  obtain ⟨r5, hq4, h⟩ := pq_i h
  refine r_cS (st' := [.int r5]) [.long x0, .long x2] [] hC hw (k_X9_isBelow _ hq4) mk_X9_isBelow lk_1358 ⟨Nat.le_trans (by decide) hR.1, Nat.le_trans (by decide) hR.2⟩ ⟨Nat.zero_le _, Nat.zero_le _⟩ rfl hl.1 rfl rfl (Nat.le_of_ble_eq_true rfl) dX9_greater_2 (fun hP H locs hw => ?_)
  refine lv_if_eq (tgt := 12) hx hb dX9_greater_5 (by decide) (fun c6 => ?_) (fun c6 => ?_)
  · have h := i_yes c6 h
    refine lv_lload_n hx hb dX9_greater_12 rfl (lv_at hl 0 rfl) ?_
    cases h
    exact r_lret hC hw dX9_greater_13
  · have h := i_no c6 h
    refine lv_lload_n hx hb dX9_greater_8 rfl (lv_at hl 1 rfl) ?_
    refine lv_goto (tgt := 13) hx hb dX9_greater_9 (by decide) ?_
    cases h
    exact r_lret hC hw dX9_greater_13
set_option maxHeartbeats 4000000 in
set_option maxRecDepth 100000 in
theorem k_X9_greater {l : Launch} {G : va_G} {cA : Nat → ClassId} {S : sh} {D : dt} {ad : Nat → Nat} (sz : Nat) {x0 : Int64} {x2 : Int64} {r : Int64}  (h : f_X9_greater x0 x2 = some r) : Co l yX9_greater (Cond.code yX9_greater cX9_greater 4 (some .long) :: tb0) 1 23 [.long x0, .long x2] G cA S D ad sz (some (.long r)) True D := by
  refine Met.ofW (cc := cX9_greater) (maxL := 4) (ret := (some .long)) (by decide) rfl ?_
  intro p e s m args below meth c s₁ B hml hv
  obtain ⟨rfl, hsz, hP, hK, hD0, hT, hX⟩ := hv
  subst hsz
  have hts := atoms_spec (ws := Cond.code yX9_greater cX9_greater 4 (some .long) :: tb0) B.pre
  have hC : Cx RX9 cX9_greater 4 (some .long) p s m _ meth c := ⟨B.exec, B.bytes, hml, findClass_of_methodNamed B.named, fun w q => hts w (List.mem_cons_of_mem _ q), B.returns, B.notSynchronized⟩
  have hw := Wd.entry hP hK hD0 hT hX
  have hl := lv_entry ([.long x0, .long x2]) (n := 4) (Nat.le_of_ble_eq_true rfl)
  rw [lg_entry_eq]
  exact w_X9_greater_0 hC ⟨Nat.le_refl _, Nat.le_refl _⟩ x0 x2 _ _ _ hw hl h
set_option maxHeartbeats 4000000 in
set_option maxRecDepth 100000 in
theorem w_X9_join_143 {r : Unit} {D' : dt} (hC : Cx RX9 cX9_join 9 none p s m args meth c) (hR : 2 ≤ R.frames ∧ 46 ≤ R.locals) : ∀ (os0 as0 : Nat) (xs1 : Int64) (D : dt) (H : Heap) (locs : List Loc) (ls : Array Slot), Is S ad os0 as0 8 → Wd G cA S D ad A s H locs → lv_has ls 9 [] → f_X9_join_143 S os0 xs1 D = some (r, D') → W p l e R s m args below meth c H locs 0 0 (MQ below (Qn none True (wpost G cA S D' ad A) A) args s 0 0 A) (F0 m 143 ls [.long xs1, .ref as0]) := by
  obtain ⟨hx, hb, -⟩ := id hC
  intro os0 as0 xs1 D H locs ls his0 hw hl h
  unfold f_X9_join_143 at h
  refine r_pL hC hw kc_8 his0 49 rfl lk_1121 rfl rfl rfl dX9_join_143 (fun D83 eD83 H locs hw => ?_)
  have h := nm_i h D83 eD83
  refine lv_goto (tgt := 203) hx hb dX9_join_146 (by decide) ?_
  cases h
  exact r_vret hC hw dX9_join_203
set_option maxHeartbeats 4000000 in
set_option maxRecDepth 100000 in
theorem w_X9_join_116 {r : Unit} {D' : dt} (hC : Cx RX9 cX9_join 9 none p s m args meth c) (hR : 2 ≤ R.frames ∧ 46 ≤ R.locals) : ∀ (o0 a0 : Nat) (x1 : Int32) (x5 : Int64) (os0 as0 : Nat) (xs1 : Int64) (D : dt) (H : Heap) (locs : List Loc) (ls : Array Slot), Is S ad o0 a0 8 → Is S ad os0 as0 8 → Wd G cA S D ad A s H locs → lv_has ls 9 [(0, .ref a0), (1, .int x1), (5, .long x5)] → f_X9_join_116 S o0 x1 x5 os0 xs1 D = some (r, D') → W p l e R s m args below meth c H locs 0 0 (MQ below (Qn none True (wpost G cA S D' ad A) A) args s 0 0 A) (F0 m 116 ls [.long xs1, .ref as0]) := by
  obtain ⟨hx, hb, -⟩ := id hC
  intro o0 a0 x1 x5 os0 as0 xs1 D H locs ls hi0 his0 hw hl h
  unfold f_X9_join_116 at h
  refine r_pL hC hw kc_8 his0 48 rfl lk_1120 rfl rfl rfl dX9_join_116 (fun D84 eD84 H locs hw => ?_)
  have h := nm_i h D84 eD84
  refine lv_aload_n hx hb dX9_join_119 rfl (lv_at hl 0 rfl) ?_
  refine lv_lload hx hb dX9_join_120 (lv_at hl 2 rfl) ?_
  refine lv_aload_n hx hb dX9_join_122 rfl (lv_at hl 0 rfl) ?_
  obtain ⟨o85, ho88, h⟩ := rq_i h
  refine r_getR hC hw kc_8 hi0 42 rfl lk_1114 dX9_join_123 rfl ho88 (fun a86 hi87 => ?_)
  refine lv_iload_n hx hb dX9_join_126 rfl (lv_at hl 1 rfl) ?_
  obtain ⟨hn89, h⟩ := ix_i h
  refine r_lald hC hw hi87 hn89 dX9_join_127 ?_
  refine W.lcmp hx hb dX9_join_128 ?_
  refine lv_if_le (tgt := 137) hx hb dX9_join_129 (by decide) (fun c90 => ?_) (fun c90 => ?_)
  · have h := i_yes c90 h
    refine lv_aload_n hx hb dX9_join_137 rfl (lv_at hl 0 rfl) ?_
    obtain ⟨o91, ho94, h⟩ := rq_i h
    refine r_getR hC hw kc_8 hi0 42 rfl lk_1114 dX9_join_138 rfl ho94 (fun a92 hi93 => ?_)
    refine lv_iload_n hx hb dX9_join_141 rfl (lv_at hl 1 rfl) ?_
    obtain ⟨hn95, h⟩ := ix_i h
    refine r_lald hC hw hi93 hn95 dX9_join_142 ?_
    exact w_X9_join_143 hC hR o0 a0 (gL D84 o91 x1.toNatClampNeg) _ _ _ _ hi0 hw (lv_sub hl [] rfl) h
  · have h := i_no c90 h
    refine lv_lload hx hb dX9_join_132 (lv_at hl 2 rfl) ?_
    refine lv_goto (tgt := 143) hx hb dX9_join_134 (by decide) ?_
    exact w_X9_join_143 hC hR o0 a0 x5 _ _ _ _ hi0 hw (lv_sub hl [] rfl) h
set_option maxHeartbeats 4000000 in
set_option maxRecDepth 100000 in
theorem w_X9_join_89 {r : Unit} {D' : dt} (hC : Cx RX9 cX9_join 9 none p s m args meth c) (hR : 2 ≤ R.frames ∧ 46 ≤ R.locals) : ∀ (o0 a0 : Nat) (x1 : Int32) (x2 : Int32) (x3 : Int64) (x5 : Int64) (D : dt) (H : Heap) (locs : List Loc) (ls : Array Slot), Is S ad o0 a0 8 → Wd G cA S D ad A s H locs → lv_has ls 9 [(0, .ref a0), (1, .int x1), (2, .int x2), (3, .long x3), (5, .long x5)] → f_X9_join_89 S o0 x1 x2 x3 x5 D = some (r, D') → W p l e R s m args below meth c H locs 0 0 (MQ below (Qn none True (wpost G cA S D' ad A) A) args s 0 0 A) (F0 m 89 ls []) := by
  obtain ⟨hx, hb, -⟩ := id hC
  intro o0 a0 x1 x2 x3 x5 D H locs ls hi0 hw hl h
  unfold f_X9_join_89 at h
  refine lv_aload_n hx hb dX9_join_89 rfl (lv_at hl 0 rfl) ?_
  refine lv_iload_n hx hb dX9_join_90 rfl (lv_at hl 2 rfl) ?_
  refine r_pI hC hw kc_8 hi0 47 rfl lk_1119 rfl rfl rfl dX9_join_91 (fun D96 eD96 H locs hw => ?_)
  have h := nm_i h D96 eD96
  refine lv_aload_n hx hb dX9_join_94 rfl (lv_at hl 0 rfl) ?_
  refine lv_lload_n hx hb dX9_join_95 rfl (lv_at hl 3 rfl) ?_
  refine lv_aload_n hx hb dX9_join_96 rfl (lv_at hl 0 rfl) ?_
  obtain ⟨o97, ho100, h⟩ := rq_i h
  refine r_getR hC hw kc_8 hi0 41 rfl lk_1113 dX9_join_97 rfl ho100 (fun a98 hi99 => ?_)
  refine lv_iload_n hx hb dX9_join_100 rfl (lv_at hl 1 rfl) ?_
  obtain ⟨hn101, h⟩ := ix_i h
  refine r_lald hC hw hi99 hn101 dX9_join_101 ?_
  refine W.lcmp hx hb dX9_join_102 ?_
  refine lv_if_ge (tgt := 110) hx hb dX9_join_103 (by decide) (fun c102 => ?_) (fun c102 => ?_)
  · have h := i_yes c102 h
    refine lv_aload_n hx hb dX9_join_110 rfl (lv_at hl 0 rfl) ?_
    obtain ⟨o103, ho106, h⟩ := rq_i h
    refine r_getR hC hw kc_8 hi0 41 rfl lk_1113 dX9_join_111 rfl ho106 (fun a104 hi105 => ?_)
    refine lv_iload_n hx hb dX9_join_114 rfl (lv_at hl 1 rfl) ?_
    obtain ⟨hn107, h⟩ := ix_i h
    refine r_lald hC hw hi105 hn107 dX9_join_115 ?_
    exact w_X9_join_116 hC hR o0 a0 x1 x5 o0 a0 (gL D96 o103 x1.toNatClampNeg) _ _ _ _ hi0 hi0 hw (lv_sub hl [0, 1, 4] rfl) h
  · have h := i_no c102 h
    refine lv_lload_n hx hb dX9_join_106 rfl (lv_at hl 3 rfl) ?_
    refine lv_goto (tgt := 116) hx hb dX9_join_107 (by decide) ?_
    exact w_X9_join_116 hC hR o0 a0 x1 x5 o0 a0 x3 _ _ _ _ hi0 hi0 hw (lv_sub hl [0, 1, 4] rfl) h
set_option maxHeartbeats 4000000 in
set_option maxRecDepth 100000 in
theorem w_X9_join_149 {r : Unit} {D' : dt} (hC : Cx RX9 cX9_join 9 none p s m args meth c) (hR : 2 ≤ R.frames ∧ 46 ≤ R.locals) : ∀ (o0 a0 : Nat) (x1 : Int32) (x2 : Int32) (x3 : Int64) (x5 : Int64) (x7 : Int32) (x8 : Int32) (D : dt) (H : Heap) (locs : List Loc) (ls : Array Slot), Is S ad o0 a0 8 → Wd G cA S D ad A s H locs → lv_has ls 9 [(0, .ref a0), (1, .int x1), (2, .int x2), (3, .long x3), (5, .long x5), (7, .int x7), (8, .int x8)] → f_X9_join_149 S o0 x1 x2 x3 x5 x7 x8 D = some (r, D') → W p l e R s m args below meth c H locs 0 0 (MQ below (Qn none True (wpost G cA S D' ad A) A) args s 0 0 A) (F0 m 149 ls []) := by
  obtain ⟨hx, hb, -⟩ := id hC
  intro o0 a0 x1 x2 x3 x5 x7 x8 D H locs ls hi0 hw hl h
  unfold f_X9_join_149 at h
  refine lv_lload_n hx hb dX9_join_149 rfl (lv_at hl 3 rfl) ?_
  refine lv_aload_n hx hb dX9_join_150 rfl (lv_at hl 0 rfl) ?_
  obtain ⟨o108, ho111, h⟩ := rq_i h
  refine r_getR hC hw kc_8 hi0 41 rfl lk_1113 dX9_join_151 rfl ho111 (fun a109 hi110 => ?_)
  refine lv_iload_n hx hb dX9_join_154 rfl (lv_at hl 1 rfl) ?_
  obtain ⟨hn112, h⟩ := ix_i h
  refine r_lald hC hw hi110 hn112 dX9_join_155 ?_
  refine W.lcmp hx hb dX9_join_156 ?_
  refine lv_if_ne (tgt := 203) hx hb dX9_join_157 (by decide) (fun c113 => ?_) (fun c113 => ?_)
  · have h := i_no c113 h
    cases h
    exact r_vret hC hw dX9_join_203
  · have h := i_yes c113 h
    refine lv_iload hx hb dX9_join_160 (lv_at hl 5 rfl) ?_
    refine lv_aload_n hx hb dX9_join_162 rfl (lv_at hl 0 rfl) ?_
    obtain ⟨o114, ho117, h⟩ := rq_i h
    refine r_getR hC hw kc_8 hi0 43 rfl lk_1115 dX9_join_163 rfl ho117 (fun a115 hi116 => ?_)
    refine lv_iload_n hx hb dX9_join_166 rfl (lv_at hl 1 rfl) ?_
    obtain ⟨hn118, h⟩ := ix_i h
    refine r_iald hC hw hi116 hn118 dX9_join_167 ?_
    refine lv_icmp_ne (tgt := 203) hx hb dX9_join_168 (by decide) (fun c119 => ?_) (fun c119 => ?_)
    · have h := i_no c119 h
      cases h
      exact r_vret hC hw dX9_join_203
    · have h := i_yes c119 h
      refine lv_iload hx hb dX9_join_171 (lv_at hl 6 rfl) ?_
      refine lv_aload_n hx hb dX9_join_173 rfl (lv_at hl 0 rfl) ?_
      obtain ⟨o120, ho123, h⟩ := rq_i h
      refine r_getR hC hw kc_8 hi0 44 rfl lk_1116 dX9_join_174 rfl ho123 (fun a121 hi122 => ?_)
      refine lv_iload_n hx hb dX9_join_177 rfl (lv_at hl 1 rfl) ?_
      obtain ⟨hn124, h⟩ := ix_i h
      refine r_iald hC hw hi122 hn124 dX9_join_178 ?_
      refine lv_icmp_ne (tgt := 203) hx hb dX9_join_179 (by decide) (fun c125 => ?_) (fun c125 => ?_)
      · have h := i_no c125 h
        cases h
        exact r_vret hC hw dX9_join_203
      · have h := i_yes c125 h
        refine lv_iload_n hx hb dX9_join_182 rfl (lv_at hl 2 rfl) ?_
        refine lv_iconst (v := 5) hx hb dX9_join_183 (by decide) ?_
        refine lv_icmp_eq (tgt := 203) hx hb dX9_join_184 (by decide) (fun c126 => ?_) (fun c126 => ?_)
        · have h := i_yes c126 h
          cases h
          exact r_vret hC hw dX9_join_203
        · have h := i_no c126 h
          refine lv_aload_n hx hb dX9_join_187 rfl (lv_at hl 0 rfl) ?_
          refine lv_iload_n hx hb dX9_join_188 rfl (lv_at hl 2 rfl) ?_
          refine r_pI hC hw kc_8 hi0 47 rfl lk_1119 rfl rfl rfl dX9_join_189 (fun D127 eD127 H locs hw => ?_)
          have h := nm_i h D127 eD127
          refine lv_aload_n hx hb dX9_join_192 rfl (lv_at hl 0 rfl) ?_
          refine lv_lload_n hx hb dX9_join_193 rfl (lv_at hl 3 rfl) ?_
          refine r_pL hC hw kc_8 hi0 48 rfl lk_1120 rfl rfl rfl dX9_join_194 (fun D128 eD128 H locs hw => ?_)
          have h := nm_i h D128 eD128
          refine lv_aload_n hx hb dX9_join_197 rfl (lv_at hl 0 rfl) ?_
          refine lv_lload hx hb dX9_join_198 (lv_at hl 4 rfl) ?_
          refine r_pL hC hw kc_8 hi0 49 rfl lk_1121 rfl rfl rfl dX9_join_200 (fun D129 eD129 H locs hw => ?_)
          have h := nm_i h D129 eD129
          cases h
          exact r_vret hC hw dX9_join_203
set_option maxHeartbeats 4000000 in
set_option maxRecDepth 100000 in
theorem w_X9_join_0 {r : Unit} {D' : dt} (hC : Cx RX9 cX9_join 9 none p s m args meth c) (hR : 2 ≤ R.frames ∧ 46 ≤ R.locals) : ∀ (o0 a0 : Nat) (x1 : Int32) (x2 : Int32) (x3 : Int64) (x5 : Int64) (x7 : Int32) (x8 : Int32) (D : dt) (H : Heap) (locs : List Loc) (ls : Array Slot), Is S ad o0 a0 8 → Wd G cA S D ad A s H locs → lv_has ls 9 [(0, .ref a0), (1, .int x1), (2, .int x2), (3, .long x3), (5, .long x5), (7, .int x7), (8, .int x8)] → f_X9_join S o0 x1 x2 x3 x5 x7 x8 D = some (r, D') → W p l e R s m args below meth c H locs 0 0 (MQ below (Qn none True (wpost G cA S D' ad A) A) args s 0 0 A) (F0 m 0 ls []) := by
  obtain ⟨hx, hb, -⟩ := id hC
  intro o0 a0 x1 x2 x3 x5 x7 x8 D H locs ls hi0 hw hl h
  unfold f_X9_join at h
  refine lv_aload_n hx hb dX9_join_0 rfl (lv_at hl 0 rfl) ?_
  refine lv_iconst (v := 0) hx hb dX9_join_1 (by decide) ?_
  refine r_pI hC hw kc_8 hi0 47 rfl lk_1119 rfl rfl rfl dX9_join_2 (fun D130 eD130 H locs hw => ?_)
  have h := nm_i h D130 eD130
  refine lv_aload_n hx hb dX9_join_5 rfl (lv_at hl 0 rfl) ?_
  refine lv_lconst (v := 0) hx hb dX9_join_6 (by decide) ?_
  refine r_pL hC hw kc_8 hi0 48 rfl lk_1120 rfl rfl rfl dX9_join_7 (fun D131 eD131 H locs hw => ?_)
  have h := nm_i h D131 eD131
  refine lv_aload_n hx hb dX9_join_10 rfl (lv_at hl 0 rfl) ?_
  refine lv_lconst (v := 0) hx hb dX9_join_11 (by decide) ?_
  refine r_pL hC hw kc_8 hi0 49 rfl lk_1121 rfl rfl rfl dX9_join_12 (fun D132 eD132 H locs hw => ?_)
  have h := nm_i h D132 eD132
  refine lv_iload_n hx hb dX9_join_15 rfl (lv_at hl 2 rfl) ?_
  refine lv_aload_n hx hb dX9_join_16 rfl (lv_at hl 0 rfl) ?_
  obtain ⟨o133, ho136, h⟩ := rq_i h
  refine r_getR hC hw kc_8 hi0 40 rfl lk_1112 dX9_join_17 rfl ho136 (fun a134 hi135 => ?_)
  refine lv_iload_n hx hb dX9_join_20 rfl (lv_at hl 1 rfl) ?_
  obtain ⟨hn137, h⟩ := ix_i h
  refine r_iald hC hw hi135 hn137 dX9_join_21 ?_
  refine lv_icmp_eq (tgt := 26) hx hb dX9_join_22 (by decide) (fun c138 => ?_) (fun c138 => ?_)
  · have h := i_yes c138 h
    refine lv_iload_n hx hb dX9_join_26 rfl (lv_at hl 2 rfl) ?_
    refine lv_iconst (v := 1) hx hb dX9_join_27 (by decide) ?_
    refine lv_icmp_ne (tgt := 68) hx hb dX9_join_28 (by decide) (fun c139 => ?_) (fun c139 => ?_)
    · have h := i_no c139 h
      refine lv_iload_n hx hb dX9_join_68 rfl (lv_at hl 2 rfl) ?_
      refine lv_iconst (v := 2) hx hb dX9_join_69 (by decide) ?_
      refine lv_icmp_eq (tgt := 89) hx hb dX9_join_70 (by decide) (fun c140 => ?_) (fun c140 => ?_)
      · have h := i_yes c140 h
        exact w_X9_join_89 hC hR o0 a0 x1 x2 x3 x5 _ _ _ _ hi0 hw (lv_sub hl [0, 1, 2, 3, 4] rfl) h
      · have h := i_no c140 h
        refine lv_iload_n hx hb dX9_join_73 rfl (lv_at hl 2 rfl) ?_
        refine lv_iconst (v := 5) hx hb dX9_join_74 (by decide) ?_
        refine lv_icmp_ne (tgt := 149) hx hb dX9_join_75 (by decide) (fun c141 => ?_) (fun c141 => ?_)
        · have h := i_no c141 h
          exact w_X9_join_149 hC hR o0 a0 x1 x2 x3 x5 x7 x8 _ _ _ _ hi0 hw (lv_sub hl [0, 1, 2, 3, 4, 5, 6] rfl) h
        · have h := i_yes c141 h
          refine lv_iload hx hb dX9_join_78 (lv_at hl 5 rfl) ?_
          refine lv_aload_n hx hb dX9_join_80 rfl (lv_at hl 0 rfl) ?_
          obtain ⟨o142, ho145, h⟩ := rq_i h
          refine r_getR hC hw kc_8 hi0 43 rfl lk_1115 dX9_join_81 rfl ho145 (fun a143 hi144 => ?_)
          refine lv_iload_n hx hb dX9_join_84 rfl (lv_at hl 1 rfl) ?_
          obtain ⟨hn146, h⟩ := ix_i h
          refine r_iald hC hw hi144 hn146 dX9_join_85 ?_
          refine lv_icmp_ne (tgt := 149) hx hb dX9_join_86 (by decide) (fun c147 => ?_) (fun c147 => ?_)
          · have h := i_no c147 h
            exact w_X9_join_149 hC hR o0 a0 x1 x2 x3 x5 x7 x8 _ _ _ _ hi0 hw (lv_sub hl [0, 1, 2, 3, 4, 5, 6] rfl) h
          · have h := i_yes c147 h
            exact w_X9_join_89 hC hR o0 a0 x1 x2 x3 x5 _ _ _ _ hi0 hw (lv_sub hl [0, 1, 2, 3, 4] rfl) h
    · have h := i_yes c139 h
      refine lv_aload_n hx hb dX9_join_31 rfl (lv_at hl 0 rfl) ?_
      refine lv_iconst (v := 1) hx hb dX9_join_32 (by decide) ?_
      refine r_pI hC hw kc_8 hi0 47 rfl lk_1119 rfl rfl rfl dX9_join_33 (fun D148 eD148 H locs hw => ?_)
      have h := nm_i h D148 eD148
      refine lv_aload_n hx hb dX9_join_36 rfl (lv_at hl 0 rfl) ?_
      refine lv_lload_n hx hb dX9_join_37 rfl (lv_at hl 3 rfl) ?_
      refine lv_aload_n hx hb dX9_join_38 rfl (lv_at hl 0 rfl) ?_
      obtain ⟨o149, ho152, h⟩ := rq_i h
      refine r_getR hC hw kc_8 hi0 41 rfl lk_1113 dX9_join_39 rfl ho152 (fun a150 hi151 => ?_)
      refine lv_iload_n hx hb dX9_join_42 rfl (lv_at hl 1 rfl) ?_
      obtain ⟨hn153, h⟩ := ix_i h
      refine r_lald hC hw hi151 hn153 dX9_join_43 ?_
      obtain ⟨r155, hq154, h⟩ := pq_i h
      refine r_cS (st' := [.long r155, .ref a0]) [.long x3, .long (gL D148 o149 x1.toNatClampNeg)] [.ref a0] hC hw (k_X9_lesser _ hq154) mk_X9_lesser lk_1466 ⟨Nat.le_trans (by decide) hR.1, Nat.le_trans (by decide) hR.2⟩ ⟨Nat.zero_le _, Nat.zero_le _⟩ rfl hl.1 rfl rfl (Nat.le_of_ble_eq_true rfl) dX9_join_44 (fun hP H locs hw => ?_)
      refine r_pL hC hw kc_8 hi0 48 rfl lk_1120 rfl rfl rfl dX9_join_47 (fun D156 eD156 H locs hw => ?_)
      have h := nm_i h D156 eD156
      refine lv_aload_n hx hb dX9_join_50 rfl (lv_at hl 0 rfl) ?_
      refine lv_lload hx hb dX9_join_51 (lv_at hl 4 rfl) ?_
      refine lv_aload_n hx hb dX9_join_53 rfl (lv_at hl 0 rfl) ?_
      obtain ⟨o157, ho160, h⟩ := rq_i h
      refine r_getR hC hw kc_8 hi0 42 rfl lk_1114 dX9_join_54 rfl ho160 (fun a158 hi159 => ?_)
      refine lv_iload_n hx hb dX9_join_57 rfl (lv_at hl 1 rfl) ?_
      obtain ⟨hn161, h⟩ := ix_i h
      refine r_lald hC hw hi159 hn161 dX9_join_58 ?_
      obtain ⟨r163, hq162, h⟩ := pq_i h
      refine r_cS (st' := [.long r163, .ref a0]) [.long x5, .long (gL D156 o157 x1.toNatClampNeg)] [.ref a0] hC hw (k_X9_greater _ hq162) mk_X9_greater lk_1469 ⟨Nat.le_trans (by decide) hR.1, Nat.le_trans (by decide) hR.2⟩ ⟨Nat.zero_le _, Nat.zero_le _⟩ rfl hl.1 rfl rfl (Nat.le_of_ble_eq_true rfl) dX9_join_59 (fun hP H locs hw => ?_)
      refine r_pL hC hw kc_8 hi0 49 rfl lk_1121 rfl rfl rfl dX9_join_62 (fun D164 eD164 H locs hw => ?_)
      have h := nm_i h D164 eD164
      refine lv_goto (tgt := 203) hx hb dX9_join_65 (by decide) ?_
      cases h
      exact r_vret hC hw dX9_join_203
  · have h := i_no c138 h
    cases h
    exact r_vret hC hw dX9_join_25
set_option maxHeartbeats 4000000 in
set_option maxRecDepth 100000 in
theorem k_X9_join {l : Launch} {G : va_G} {cA : Nat → ClassId} {S : sh} {D D' : dt} {ad : Nat → Nat} (sz : Nat) {o0 a0 : Nat} {x1 : Int32} {x2 : Int32} {x3 : Int64} {x5 : Int64} {x7 : Int32} {x8 : Int32} {r : Unit} (hi0 : Is S ad o0 a0 8) (h : f_X9_join S o0 x1 x2 x3 x5 x7 x8 D = some (r, D')) : Co l yX9_join (Cond.code yX9_join cX9_join 9 none :: tb0) 2 46 [.ref a0, .int x1, .int x2, .long x3, .long x5, .int x7, .int x8] G cA S D ad sz none True D' := by
  refine Met.ofW (cc := cX9_join) (maxL := 9) (ret := none) (by decide) rfl ?_
  intro p e s m args below meth c s₁ B hml hv
  obtain ⟨rfl, hsz, hP, hK, hD0, hT, hX⟩ := hv
  subst hsz
  have hts := atoms_spec (ws := Cond.code yX9_join cX9_join 9 none :: tb0) B.pre
  have hC : Cx RX9 cX9_join 9 none p s m _ meth c := ⟨B.exec, B.bytes, hml, findClass_of_methodNamed B.named, fun w q => hts w (List.mem_cons_of_mem _ q), B.returns, B.notSynchronized⟩
  have hw := Wd.entry hP hK hD0 hT hX
  have hl := lv_entry ([.ref a0, .int x1, .int x2, .long x3, .long x5, .int x7, .int x8]) (n := 9) (Nat.le_of_ble_eq_true rfl)
  rw [lg_entry_eq]
  exact w_X9_join_0 hC ⟨Nat.le_refl _, Nat.le_refl _⟩ o0 a0 x1 x2 x3 x5 x7 x8 D _ _ _ hi0 hw hl h
end

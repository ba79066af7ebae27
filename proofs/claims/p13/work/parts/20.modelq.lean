theorem dX9_lookPut_0 : decode cX9_lookPut 0 = .ok (.aload_n 0, 1) := by decide +kernel
theorem dX9_lookPut_1 : decode cX9_lookPut 1 = .ok (.getfield 13, 3) := by decide +kernel
theorem dX9_lookPut_4 : decode cX9_lookPut 4 = .ok (.iload_n 1, 1) := by decide +kernel
theorem dX9_lookPut_5 : decode cX9_lookPut 5 = .ok (.iaload, 1) := by decide +kernel
theorem dX9_lookPut_6 : decode cX9_lookPut 6 = .ok (.istore 4, 2) := by decide +kernel
theorem dX9_lookPut_8 : decode cX9_lookPut 8 = .ok (.aload_n 0, 1) := by decide +kernel
theorem dX9_lookPut_9 : decode cX9_lookPut 9 = .ok (.getfield 106, 3) := by decide +kernel
theorem dX9_lookPut_12 : decode cX9_lookPut 12 = .ok (.iload 4, 2) := by decide +kernel
theorem dX9_lookPut_14 : decode cX9_lookPut 14 = .ok (.iaload, 1) := by decide +kernel
theorem dX9_lookPut_15 : decode cX9_lookPut 15 = .ok (.iconst 3, 1) := by decide +kernel
theorem dX9_lookPut_16 : decode cX9_lookPut 16 = .ok (.if_icmp .ne 7, 3) := by decide +kernel
theorem dX9_lookPut_19 : decode cX9_lookPut 19 = .ok (.iconst 1, 1) := by decide +kernel
theorem dX9_lookPut_20 : decode cX9_lookPut 20 = .ok (.goto 4, 3) := by decide +kernel
theorem dX9_lookPut_23 : decode cX9_lookPut 23 = .ok (.iconst 0, 1) := by decide +kernel
theorem dX9_lookPut_24 : decode cX9_lookPut 24 = .ok (.istore 5, 2) := by decide +kernel
theorem dX9_lookPut_26 : decode cX9_lookPut 26 = .ok (.aload_n 0, 1) := by decide +kernel
theorem dX9_lookPut_27 : decode cX9_lookPut 27 = .ok (.getfield 109, 3) := by decide +kernel
theorem dX9_lookPut_30 : decode cX9_lookPut 30 = .ok (.iload 4, 2) := by decide +kernel
theorem dX9_lookPut_32 : decode cX9_lookPut 32 = .ok (.laload, 1) := by decide +kernel
theorem dX9_lookPut_33 : decode cX9_lookPut 33 = .ok (.aload_n 0, 1) := by decide +kernel
theorem dX9_lookPut_34 : decode cX9_lookPut 34 = .ok (.getfield 19, 3) := by decide +kernel
theorem dX9_lookPut_37 : decode cX9_lookPut 37 = .ok (.iload_n 1, 1) := by decide +kernel
theorem dX9_lookPut_38 : decode cX9_lookPut 38 = .ok (.iaload, 1) := by decide +kernel
theorem dX9_lookPut_39 : decode cX9_lookPut 39 = .ok (.i2l, 1) := by decide +kernel
theorem dX9_lookPut_40 : decode cX9_lookPut 40 = .ok (.ladd, 1) := by decide +kernel
theorem dX9_lookPut_41 : decode cX9_lookPut 41 = .ok (.ldc2_w 476, 3) := by decide +kernel
theorem dX9_lookPut_44 : decode cX9_lookPut 44 = .ok (.ladd, 1) := by decide +kernel
theorem dX9_lookPut_45 : decode cX9_lookPut 45 = .ok (.lstore 6, 2) := by decide +kernel
theorem dX9_lookPut_47 : decode cX9_lookPut 47 = .ok (.iload_n 3, 1) := by decide +kernel
theorem dX9_lookPut_48 : decode cX9_lookPut 48 = .ok (.ifCond .lt 29, 3) := by decide +kernel
theorem dX9_lookPut_51 : decode cX9_lookPut 51 = .ok (.iload_n 2, 1) := by decide +kernel
theorem dX9_lookPut_52 : decode cX9_lookPut 52 = .ok (.bipush 8, 2) := by decide +kernel
theorem dX9_lookPut_54 : decode cX9_lookPut 54 = .ok (.if_icmp .ne 23, 3) := by decide +kernel
theorem dX9_lookPut_57 : decode cX9_lookPut 57 = .ok (.iload 5, 2) := by decide +kernel
theorem dX9_lookPut_59 : decode cX9_lookPut 59 = .ok (.ifCond .eq 18, 3) := by decide +kernel
theorem dX9_lookPut_62 : decode cX9_lookPut 62 = .ok (.lload 6, 2) := by decide +kernel
theorem dX9_lookPut_64 : decode cX9_lookPut 64 = .ok (.ldc2_w 478, 3) := by decide +kernel
theorem dX9_lookPut_67 : decode cX9_lookPut 67 = .ok (.land, 1) := by decide +kernel
theorem dX9_lookPut_68 : decode cX9_lookPut 68 = .ok (.lconst 0, 1) := by decide +kernel
theorem dX9_lookPut_69 : decode cX9_lookPut 69 = .ok (.lcmp, 1) := by decide +kernel
theorem dX9_lookPut_70 : decode cX9_lookPut 70 = .ok (.ifCond .ne 7, 3) := by decide +kernel
theorem dX9_lookPut_73 : decode cX9_lookPut 73 = .ok (.iconst 1, 1) := by decide +kernel
theorem dX9_lookPut_74 : decode cX9_lookPut 74 = .ok (.goto 4, 3) := by decide +kernel
theorem dX9_lookPut_77 : decode cX9_lookPut 77 = .ok (.iconst 0, 1) := by decide +kernel
theorem dX9_lookPut_78 : decode cX9_lookPut 78 = .ok (.istore 8, 2) := by decide +kernel
theorem dX9_lookPut_80 : decode cX9_lookPut 80 = .ok (.iload_n 3, 1) := by decide +kernel
theorem dX9_lookPut_81 : decode cX9_lookPut 81 = .ok (.ifCond .lt 20, 3) := by decide +kernel
theorem dX9_lookPut_84 : decode cX9_lookPut 84 = .ok (.aload_n 0, 1) := by decide +kernel
theorem dX9_lookPut_85 : decode cX9_lookPut 85 = .ok (.getfield 106, 3) := by decide +kernel
theorem dX9_lookPut_88 : decode cX9_lookPut 88 = .ok (.iload_n 3, 1) := by decide +kernel
theorem dX9_lookPut_89 : decode cX9_lookPut 89 = .ok (.iaload, 1) := by decide +kernel
theorem dX9_lookPut_90 : decode cX9_lookPut 90 = .ok (.iconst 1, 1) := by decide +kernel
theorem dX9_lookPut_91 : decode cX9_lookPut 91 = .ok (.if_icmp .eq 10, 3) := by decide +kernel
theorem dX9_lookPut_94 : decode cX9_lookPut 94 = .ok (.iload 8, 2) := by decide +kernel
theorem dX9_lookPut_96 : decode cX9_lookPut 96 = .ok (.ifCond .ne 5, 3) := by decide +kernel
theorem dX9_lookPut_99 : decode cX9_lookPut 99 = .ok (.iconst 3, 1) := by decide +kernel
theorem dX9_lookPut_100 : decode cX9_lookPut 100 = .ok (.ireturn, 1) := by decide +kernel
theorem dX9_lookPut_101 : decode cX9_lookPut 101 = .ok (.aload_n 0, 1) := by decide +kernel
theorem dX9_lookPut_102 : decode cX9_lookPut 102 = .ok (.iload 4, 2) := by decide +kernel
theorem dX9_lookPut_104 : decode cX9_lookPut 104 = .ok (.aload_n 0, 1) := by decide +kernel
theorem dX9_lookPut_105 : decode cX9_lookPut 105 = .ok (.getfield 19, 3) := by decide +kernel
theorem dX9_lookPut_108 : decode cX9_lookPut 108 = .ok (.iload_n 1, 1) := by decide +kernel
theorem dX9_lookPut_109 : decode cX9_lookPut 109 = .ok (.iaload, 1) := by decide +kernel
theorem dX9_lookPut_110 : decode cX9_lookPut 110 = .ok (.iload_n 2, 1) := by decide +kernel
theorem dX9_lookPut_111 : decode cX9_lookPut 111 = .ok (.iconst 1, 1) := by decide +kernel
theorem dX9_lookPut_112 : decode cX9_lookPut 112 = .ok (.invokevirtual 466, 3) := by decide +kernel
theorem dX9_lookPut_115 : decode cX9_lookPut 115 = .ok (.istore 9, 2) := by decide +kernel
theorem dX9_lookPut_117 : decode cX9_lookPut 117 = .ok (.iload 9, 2) := by decide +kernel
theorem dX9_lookPut_119 : decode cX9_lookPut 119 = .ok (.ifCond .gt 8, 3) := by decide +kernel
theorem dX9_lookPut_122 : decode cX9_lookPut 122 = .ok (.iload 5, 2) := by decide +kernel
theorem dX9_lookPut_124 : decode cX9_lookPut 124 = .ok (.ifCond .ne 6, 3) := by decide +kernel
theorem dX9_lookPut_127 : decode cX9_lookPut 127 = .ok (.iload 9, 2) := by decide +kernel
theorem dX9_lookPut_129 : decode cX9_lookPut 129 = .ok (.ireturn, 1) := by decide +kernel
theorem dX9_lookPut_130 : decode cX9_lookPut 130 = .ok (.lload 6, 2) := by decide +kernel
theorem dX9_lookPut_132 : decode cX9_lookPut 132 = .ok (.l2i, 1) := by decide +kernel
theorem dX9_lookPut_133 : decode cX9_lookPut 133 = .ok (.istore 10, 2) := by decide +kernel
theorem dX9_lookPut_135 : decode cX9_lookPut 135 = .ok (.aload_n 0, 1) := by decide +kernel
theorem dX9_lookPut_136 : decode cX9_lookPut 136 = .ok (.iload 10, 2) := by decide +kernel
theorem dX9_lookPut_138 : decode cX9_lookPut 138 = .ok (.iload_n 2, 1) := by decide +kernel
theorem dX9_lookPut_139 : decode cX9_lookPut 139 = .ok (.invokevirtual 480, 3) := by decide +kernel
theorem dX9_lookPut_142 : decode cX9_lookPut 142 = .ok (.iload 8, 2) := by decide +kernel
theorem dX9_lookPut_144 : decode cX9_lookPut 144 = .ok (.ifCond .eq 58, 3) := by decide +kernel
theorem dX9_lookPut_147 : decode cX9_lookPut 147 = .ok (.aload_n 0, 1) := by decide +kernel
theorem dX9_lookPut_148 : decode cX9_lookPut 148 = .ok (.iload_n 3, 1) := by decide +kernel
theorem dX9_lookPut_149 : decode cX9_lookPut 149 = .ok (.bipush 11, 2) := by decide +kernel
theorem dX9_lookPut_151 : decode cX9_lookPut 151 = .ok (.iload 10, 2) := by decide +kernel
theorem dX9_lookPut_153 : decode cX9_lookPut 153 = .ok (.bipush 8, 2) := by decide +kernel
theorem dX9_lookPut_155 : decode cX9_lookPut 155 = .ok (.idiv, 1) := by decide +kernel
theorem dX9_lookPut_156 : decode cX9_lookPut 156 = .ok (.iadd, 1) := by decide +kernel
theorem dX9_lookPut_157 : decode cX9_lookPut 157 = .ok (.invokevirtual 409, 3) := by decide +kernel
theorem dX9_lookPut_160 : decode cX9_lookPut 160 = .ok (.iload 10, 2) := by decide +kernel
theorem dX9_lookPut_162 : decode cX9_lookPut 162 = .ok (.istore 11, 2) := by decide +kernel
theorem dX9_lookPut_164 : decode cX9_lookPut 164 = .ok (.iload 11, 2) := by decide +kernel
theorem dX9_lookPut_166 : decode cX9_lookPut 166 = .ok (.iload 10, 2) := by decide +kernel
theorem dX9_lookPut_168 : decode cX9_lookPut 168 = .ok (.bipush 8, 2) := by decide +kernel
theorem dX9_lookPut_170 : decode cX9_lookPut 170 = .ok (.iadd, 1) := by decide +kernel
theorem dX9_lookPut_171 : decode cX9_lookPut 171 = .ok (.if_icmp .ge 31, 3) := by decide +kernel
theorem dX9_lookPut_174 : decode cX9_lookPut 174 = .ok (.aload_n 0, 1) := by decide +kernel
theorem dX9_lookPut_175 : decode cX9_lookPut 175 = .ok (.getfield 121, 3) := by decide +kernel
theorem dX9_lookPut_178 : decode cX9_lookPut 178 = .ok (.iload 11, 2) := by decide +kernel
theorem dX9_lookPut_180 : decode cX9_lookPut 180 = .ok (.aload_n 0, 1) := by decide +kernel
theorem dX9_lookPut_181 : decode cX9_lookPut 181 = .ok (.getfield 106, 3) := by decide +kernel
theorem dX9_lookPut_184 : decode cX9_lookPut 184 = .ok (.iload_n 3, 1) := by decide +kernel
theorem dX9_lookPut_185 : decode cX9_lookPut 185 = .ok (.iaload, 1) := by decide +kernel
theorem dX9_lookPut_186 : decode cX9_lookPut 186 = .ok (.iconst 1, 1) := by decide +kernel
theorem dX9_lookPut_187 : decode cX9_lookPut 187 = .ok (.if_icmp .ne 7, 3) := by decide +kernel
theorem dX9_lookPut_190 : decode cX9_lookPut 190 = .ok (.iconst 1, 1) := by decide +kernel
theorem dX9_lookPut_191 : decode cX9_lookPut 191 = .ok (.goto 4, 3) := by decide +kernel
theorem dX9_lookPut_194 : decode cX9_lookPut 194 = .ok (.iconst 0, 1) := by decide +kernel
theorem dX9_lookPut_195 : decode cX9_lookPut 195 = .ok (.bastore, 1) := by decide +kernel
theorem dX9_lookPut_196 : decode cX9_lookPut 196 = .ok (.iinc 11 1, 3) := by decide +kernel
theorem dX9_lookPut_199 : decode cX9_lookPut 199 = .ok (.goto (-35), 3) := by decide +kernel
theorem dX9_lookPut_202 : decode cX9_lookPut 202 = .ok (.iconst 0, 1) := by decide +kernel
theorem dX9_lookPut_203 : decode cX9_lookPut 203 = .ok (.ireturn, 1) := by decide +kernel
theorem dX9_lookBoth_0 : decode cX9_lookBoth 0 = .ok (.aload_n 0, 1) := by decide +kernel
theorem dX9_lookBoth_1 : decode cX9_lookBoth 1 = .ok (.getfield 13, 3) := by decide +kernel
theorem dX9_lookBoth_4 : decode cX9_lookBoth 4 = .ok (.iload_n 1, 1) := by decide +kernel
theorem dX9_lookBoth_5 : decode cX9_lookBoth 5 = .ok (.iaload, 1) := by decide +kernel
theorem dX9_lookBoth_6 : decode cX9_lookBoth 6 = .ok (.istore_n 3, 1) := by decide +kernel
theorem dX9_lookBoth_7 : decode cX9_lookBoth 7 = .ok (.aload_n 0, 1) := by decide +kernel
theorem dX9_lookBoth_8 : decode cX9_lookBoth 8 = .ok (.getfield 16, 3) := by decide +kernel
theorem dX9_lookBoth_11 : decode cX9_lookBoth 11 = .ok (.iload_n 1, 1) := by decide +kernel
theorem dX9_lookBoth_12 : decode cX9_lookBoth 12 = .ok (.iaload, 1) := by decide +kernel
theorem dX9_lookBoth_13 : decode cX9_lookBoth 13 = .ok (.istore 4, 2) := by decide +kernel
theorem dX9_lookBoth_15 : decode cX9_lookBoth 15 = .ok (.aload_n 0, 1) := by decide +kernel
theorem dX9_lookBoth_16 : decode cX9_lookBoth 16 = .ok (.getfield 22, 3) := by decide +kernel
theorem dX9_lookBoth_19 : decode cX9_lookBoth 19 = .ok (.iload_n 1, 1) := by decide +kernel
theorem dX9_lookBoth_20 : decode cX9_lookBoth 20 = .ok (.iaload, 1) := by decide +kernel
theorem dX9_lookBoth_21 : decode cX9_lookBoth 21 = .ok (.sipush 241, 3) := by decide +kernel
theorem dX9_lookBoth_24 : decode cX9_lookBoth 24 = .ok (.if_icmp .ne 7, 3) := by decide +kernel
theorem dX9_lookBoth_27 : decode cX9_lookBoth 27 = .ok (.iconst 1, 1) := by decide +kernel
theorem dX9_lookBoth_28 : decode cX9_lookBoth 28 = .ok (.goto 4, 3) := by decide +kernel
theorem dX9_lookBoth_31 : decode cX9_lookBoth 31 = .ok (.iconst 0, 1) := by decide +kernel
theorem dX9_lookBoth_32 : decode cX9_lookBoth 32 = .ok (.istore 5, 2) := by decide +kernel
theorem dX9_lookBoth_34 : decode cX9_lookBoth 34 = .ok (.aload_n 0, 1) := by decide +kernel
theorem dX9_lookBoth_35 : decode cX9_lookBoth 35 = .ok (.getfield 106, 3) := by decide +kernel
theorem dX9_lookBoth_38 : decode cX9_lookBoth 38 = .ok (.iload_n 3, 1) := by decide +kernel
theorem dX9_lookBoth_39 : decode cX9_lookBoth 39 = .ok (.iaload, 1) := by decide +kernel
theorem dX9_lookBoth_40 : decode cX9_lookBoth 40 = .ok (.ifCond .eq 27, 3) := by decide +kernel
theorem dX9_lookBoth_43 : decode cX9_lookBoth 43 = .ok (.aload_n 0, 1) := by decide +kernel
theorem dX9_lookBoth_44 : decode cX9_lookBoth 44 = .ok (.getfield 106, 3) := by decide +kernel
theorem dX9_lookBoth_47 : decode cX9_lookBoth 47 = .ok (.iload 4, 2) := by decide +kernel
theorem dX9_lookBoth_49 : decode cX9_lookBoth 49 = .ok (.iaload, 1) := by decide +kernel
theorem dX9_lookBoth_50 : decode cX9_lookBoth 50 = .ok (.ifCond .eq 17, 3) := by decide +kernel
theorem dX9_lookBoth_53 : decode cX9_lookBoth 53 = .ok (.iload 5, 2) := by decide +kernel
theorem dX9_lookBoth_55 : decode cX9_lookBoth 55 = .ok (.ifCond .eq 14, 3) := by decide +kernel
theorem dX9_lookBoth_58 : decode cX9_lookBoth 58 = .ok (.aload_n 0, 1) := by decide +kernel
theorem dX9_lookBoth_59 : decode cX9_lookBoth 59 = .ok (.getfield 106, 3) := by decide +kernel
theorem dX9_lookBoth_62 : decode cX9_lookBoth 62 = .ok (.iconst 0, 1) := by decide +kernel
theorem dX9_lookBoth_63 : decode cX9_lookBoth 63 = .ok (.iaload, 1) := by decide +kernel
theorem dX9_lookBoth_64 : decode cX9_lookBoth 64 = .ok (.ifCond .ne 5, 3) := by decide +kernel
theorem dX9_lookBoth_67 : decode cX9_lookBoth 67 = .ok (.iconst 2, 1) := by decide +kernel
theorem dX9_lookBoth_68 : decode cX9_lookBoth 68 = .ok (.ireturn, 1) := by decide +kernel
theorem dX9_lookBoth_69 : decode cX9_lookBoth 69 = .ok (.aload_n 0, 1) := by decide +kernel
theorem dX9_lookBoth_70 : decode cX9_lookBoth 70 = .ok (.iload_n 3, 1) := by decide +kernel
theorem dX9_lookBoth_71 : decode cX9_lookBoth 71 = .ok (.aload_n 0, 1) := by decide +kernel
theorem dX9_lookBoth_72 : decode cX9_lookBoth 72 = .ok (.getfield 19, 3) := by decide +kernel
theorem dX9_lookBoth_75 : decode cX9_lookBoth 75 = .ok (.iload_n 1, 1) := by decide +kernel
theorem dX9_lookBoth_76 : decode cX9_lookBoth 76 = .ok (.iaload, 1) := by decide +kernel
theorem dX9_lookBoth_77 : decode cX9_lookBoth 77 = .ok (.iload_n 2, 1) := by decide +kernel
theorem dX9_lookBoth_78 : decode cX9_lookBoth 78 = .ok (.iconst 1, 1) := by decide +kernel
theorem dX9_lookBoth_79 : decode cX9_lookBoth 79 = .ok (.invokevirtual 466, 3) := by decide +kernel
theorem dX9_lookBoth_82 : decode cX9_lookBoth 82 = .ok (.istore 6, 2) := by decide +kernel
theorem dX9_lookBoth_84 : decode cX9_lookBoth 84 = .ok (.iload 6, 2) := by decide +kernel
theorem dX9_lookBoth_86 : decode cX9_lookBoth 86 = .ok (.iconst 3, 1) := by decide +kernel
theorem dX9_lookBoth_87 : decode cX9_lookBoth 87 = .ok (.if_icmp .eq 29, 3) := by decide +kernel
theorem dX9_lookBoth_90 : decode cX9_lookBoth 90 = .ok (.aload_n 0, 1) := by decide +kernel
theorem dX9_lookBoth_91 : decode cX9_lookBoth 91 = .ok (.getfield 106, 3) := by decide +kernel
theorem dX9_lookBoth_94 : decode cX9_lookBoth 94 = .ok (.iload 4, 2) := by decide +kernel
theorem dX9_lookBoth_96 : decode cX9_lookBoth 96 = .ok (.iaload, 1) := by decide +kernel
theorem dX9_lookBoth_97 : decode cX9_lookBoth 97 = .ok (.iconst 1, 1) := by decide +kernel
theorem dX9_lookBoth_98 : decode cX9_lookBoth 98 = .ok (.if_icmp .ne 18, 3) := by decide +kernel
theorem dX9_lookBoth_101 : decode cX9_lookBoth 101 = .ok (.iload 5, 2) := by decide +kernel
theorem dX9_lookBoth_103 : decode cX9_lookBoth 103 = .ok (.ifCond .eq 15, 3) := by decide +kernel
theorem dX9_lookBoth_106 : decode cX9_lookBoth 106 = .ok (.aload_n 0, 1) := by decide +kernel
theorem dX9_lookBoth_107 : decode cX9_lookBoth 107 = .ok (.getfield 106, 3) := by decide +kernel
theorem dX9_lookBoth_110 : decode cX9_lookBoth 110 = .ok (.iconst 0, 1) := by decide +kernel
theorem dX9_lookBoth_111 : decode cX9_lookBoth 111 = .ok (.iaload, 1) := by decide +kernel
theorem dX9_lookBoth_112 : decode cX9_lookBoth 112 = .ok (.iconst 1, 1) := by decide +kernel
theorem dX9_lookBoth_113 : decode cX9_lookBoth 113 = .ok (.if_icmp .eq 5, 3) := by decide +kernel
theorem dX9_lookBoth_116 : decode cX9_lookBoth 116 = .ok (.iconst 3, 1) := by decide +kernel
theorem dX9_lookBoth_117 : decode cX9_lookBoth 117 = .ok (.ireturn, 1) := by decide +kernel
theorem dX9_lookBoth_118 : decode cX9_lookBoth 118 = .ok (.iload 6, 2) := by decide +kernel
theorem dX9_lookBoth_120 : decode cX9_lookBoth 120 = .ok (.ifCond .le 6, 3) := by decide +kernel
theorem dX9_lookBoth_123 : decode cX9_lookBoth 123 = .ok (.iload 6, 2) := by decide +kernel
theorem dX9_lookBoth_125 : decode cX9_lookBoth 125 = .ok (.ireturn, 1) := by decide +kernel
theorem dX9_lookBoth_126 : decode cX9_lookBoth 126 = .ok (.aload_n 0, 1) := by decide +kernel
theorem dX9_lookBoth_127 : decode cX9_lookBoth 127 = .ok (.getfield 106, 3) := by decide +kernel
theorem dX9_lookBoth_130 : decode cX9_lookBoth 130 = .ok (.iload_n 3, 1) := by decide +kernel
theorem dX9_lookBoth_131 : decode cX9_lookBoth 131 = .ok (.iaload, 1) := by decide +kernel
theorem dX9_lookBoth_132 : decode cX9_lookBoth 132 = .ok (.iconst 3, 1) := by decide +kernel
theorem dX9_lookBoth_133 : decode cX9_lookBoth 133 = .ok (.if_icmp .ne 42, 3) := by decide +kernel
theorem dX9_lookBoth_136 : decode cX9_lookBoth 136 = .ok (.aload_n 0, 1) := by decide +kernel
theorem dX9_lookBoth_137 : decode cX9_lookBoth 137 = .ok (.getfield 109, 3) := by decide +kernel
theorem dX9_lookBoth_140 : decode cX9_lookBoth 140 = .ok (.iload_n 3, 1) := by decide +kernel
theorem dX9_lookBoth_141 : decode cX9_lookBoth 141 = .ok (.laload, 1) := by decide +kernel
theorem dX9_lookBoth_142 : decode cX9_lookBoth 142 = .ok (.l2i, 1) := by decide +kernel
theorem dX9_lookBoth_143 : decode cX9_lookBoth 143 = .ok (.aload_n 0, 1) := by decide +kernel
theorem dX9_lookBoth_144 : decode cX9_lookBoth 144 = .ok (.getfield 19, 3) := by decide +kernel
theorem dX9_lookBoth_147 : decode cX9_lookBoth 147 = .ok (.iload_n 1, 1) := by decide +kernel
theorem dX9_lookBoth_148 : decode cX9_lookBoth 148 = .ok (.iaload, 1) := by decide +kernel
theorem dX9_lookBoth_149 : decode cX9_lookBoth 149 = .ok (.iadd, 1) := by decide +kernel
theorem dX9_lookBoth_150 : decode cX9_lookBoth 150 = .ok (.sipush 512, 3) := by decide +kernel
theorem dX9_lookBoth_153 : decode cX9_lookBoth 153 = .ok (.iadd, 1) := by decide +kernel
theorem dX9_lookBoth_154 : decode cX9_lookBoth 154 = .ok (.istore 7, 2) := by decide +kernel
theorem dX9_lookBoth_156 : decode cX9_lookBoth 156 = .ok (.aload_n 0, 1) := by decide +kernel
theorem dX9_lookBoth_157 : decode cX9_lookBoth 157 = .ok (.iload 7, 2) := by decide +kernel
theorem dX9_lookBoth_159 : decode cX9_lookBoth 159 = .ok (.iload_n 2, 1) := by decide +kernel
theorem dX9_lookBoth_160 : decode cX9_lookBoth 160 = .ok (.invokevirtual 470, 3) := by decide +kernel
theorem dX9_lookBoth_163 : decode cX9_lookBoth 163 = .ok (.ifCond .ne 5, 3) := by decide +kernel
theorem dX9_lookBoth_166 : decode cX9_lookBoth 166 = .ok (.iconst 4, 1) := by decide +kernel
theorem dX9_lookBoth_167 : decode cX9_lookBoth 167 = .ok (.ireturn, 1) := by decide +kernel
theorem dX9_lookBoth_168 : decode cX9_lookBoth 168 = .ok (.aload_n 0, 1) := by decide +kernel
theorem dX9_lookBoth_169 : decode cX9_lookBoth 169 = .ok (.iload 7, 2) := by decide +kernel
theorem dX9_lookBoth_171 : decode cX9_lookBoth 171 = .ok (.iload_n 2, 1) := by decide +kernel
theorem dX9_lookBoth_172 : decode cX9_lookBoth 172 = .ok (.invokevirtual 480, 3) := by decide +kernel
theorem dX9_lookBoth_175 : decode cX9_lookBoth 175 = .ok (.iload 5, 2) := by decide +kernel
theorem dX9_lookBoth_177 : decode cX9_lookBoth 177 = .ok (.ifCond .eq 16, 3) := by decide +kernel
theorem dX9_lookBoth_180 : decode cX9_lookBoth 180 = .ok (.aload_n 0, 1) := by decide +kernel
theorem dX9_lookBoth_181 : decode cX9_lookBoth 181 = .ok (.iconst 0, 1) := by decide +kernel
theorem dX9_lookBoth_182 : decode cX9_lookBoth 182 = .ok (.lconst 0, 1) := by decide +kernel
theorem dX9_lookBoth_183 : decode cX9_lookBoth 183 = .ok (.iload_n 2, 1) := by decide +kernel
theorem dX9_lookBoth_184 : decode cX9_lookBoth 184 = .ok (.invokestatic 473, 3) := by decide +kernel
theorem dX9_lookBoth_187 : decode cX9_lookBoth 187 = .ok (.invokevirtual 393, 3) := by decide +kernel
theorem dX9_lookBoth_190 : decode cX9_lookBoth 190 = .ok (.goto 26, 3) := by decide +kernel
theorem dX9_lookBoth_193 : decode cX9_lookBoth 193 = .ok (.aload_n 0, 1) := by decide +kernel
theorem dX9_lookBoth_194 : decode cX9_lookBoth 194 = .ok (.getfield 22, 3) := by decide +kernel
theorem dX9_lookBoth_197 : decode cX9_lookBoth 197 = .ok (.iload_n 1, 1) := by decide +kernel
theorem dX9_lookBoth_198 : decode cX9_lookBoth 198 = .ok (.iaload, 1) := by decide +kernel
theorem dX9_lookBoth_199 : decode cX9_lookBoth 199 = .ok (.iconst 1, 1) := by decide +kernel
theorem dX9_lookBoth_200 : decode cX9_lookBoth 200 = .ok (.iand, 1) := by decide +kernel
theorem dX9_lookBoth_201 : decode cX9_lookBoth 201 = .ok (.iconst 1, 1) := by decide +kernel
theorem dX9_lookBoth_202 : decode cX9_lookBoth 202 = .ok (.if_icmp .ne 14, 3) := by decide +kernel
theorem dX9_lookBoth_205 : decode cX9_lookBoth 205 = .ok (.aload_n 0, 1) := by decide +kernel
theorem dX9_lookBoth_206 : decode cX9_lookBoth 206 = .ok (.iload 4, 2) := by decide +kernel
theorem dX9_lookBoth_208 : decode cX9_lookBoth 208 = .ok (.lconst 0, 1) := by decide +kernel
theorem dX9_lookBoth_209 : decode cX9_lookBoth 209 = .ok (.iload_n 2, 1) := by decide +kernel
theorem dX9_lookBoth_210 : decode cX9_lookBoth 210 = .ok (.invokestatic 473, 3) := by decide +kernel
theorem dX9_lookBoth_213 : decode cX9_lookBoth 213 = .ok (.invokevirtual 393, 3) := by decide +kernel
theorem dX9_lookBoth_216 : decode cX9_lookBoth 216 = .ok (.iconst 0, 1) := by decide +kernel
theorem dX9_lookBoth_217 : decode cX9_lookBoth 217 = .ok (.ireturn, 1) := by decide +kernel
theorem dX9_lookWide_0 : decode cX9_lookWide 0 = .ok (.iload_n 1, 1) := by decide +kernel
theorem dX9_lookWide_1 : decode cX9_lookWide 1 = .ok (.iconst 1, 1) := by decide +kernel
theorem dX9_lookWide_2 : decode cX9_lookWide 2 = .ok (.iadd, 1) := by decide +kernel
theorem dX9_lookWide_3 : decode cX9_lookWide 3 = .ok (.aload_n 0, 1) := by decide +kernel
theorem dX9_lookWide_4 : decode cX9_lookWide 4 = .ok (.getfield 147, 3) := by decide +kernel
theorem dX9_lookWide_7 : decode cX9_lookWide 7 = .ok (.if_icmp .ge 7, 3) := by decide +kernel
theorem dX9_lookWide_10 : decode cX9_lookWide 10 = .ok (.iconst 1, 1) := by decide +kernel
theorem dX9_lookWide_11 : decode cX9_lookWide 11 = .ok (.goto 4, 3) := by decide +kernel
theorem dX9_lookWide_14 : decode cX9_lookWide 14 = .ok (.iconst 0, 1) := by decide +kernel
theorem dX9_lookWide_15 : decode cX9_lookWide 15 = .ok (.istore_n 2, 1) := by decide +kernel
theorem dX9_lookWide_16 : decode cX9_lookWide 16 = .ok (.iload_n 2, 1) := by decide +kernel
theorem dX9_lookWide_17 : decode cX9_lookWide 17 = .ok (.ifCond .eq 15, 3) := by decide +kernel
theorem dX9_lookWide_20 : decode cX9_lookWide 20 = .ok (.aload_n 0, 1) := by decide +kernel
theorem dX9_lookWide_21 : decode cX9_lookWide 21 = .ok (.iload_n 1, 1) := by decide +kernel
theorem dX9_lookWide_22 : decode cX9_lookWide 22 = .ok (.iconst 1, 1) := by decide +kernel
theorem dX9_lookWide_23 : decode cX9_lookWide 23 = .ok (.iadd, 1) := by decide +kernel
theorem dX9_lookWide_24 : decode cX9_lookWide 24 = .ok (.invokevirtual 309, 3) := by decide +kernel
theorem dX9_lookWide_27 : decode cX9_lookWide 27 = .ok (.ifCond .ne 5, 3) := by decide +kernel
theorem dX9_lookWide_30 : decode cX9_lookWide 30 = .ok (.iconst 1, 1) := by decide +kernel
theorem dX9_lookWide_31 : decode cX9_lookWide 31 = .ok (.ireturn, 1) := by decide +kernel
theorem dX9_lookWide_32 : decode cX9_lookWide 32 = .ok (.aload_n 0, 1) := by decide +kernel
theorem dX9_lookWide_33 : decode cX9_lookWide 33 = .ok (.getfield 16, 3) := by decide +kernel
theorem dX9_lookWide_36 : decode cX9_lookWide 36 = .ok (.iload_n 1, 1) := by decide +kernel
theorem dX9_lookWide_37 : decode cX9_lookWide 37 = .ok (.iaload, 1) := by decide +kernel
theorem dX9_lookWide_38 : decode cX9_lookWide 38 = .ok (.iconst 1, 1) := by decide +kernel
theorem dX9_lookWide_39 : decode cX9_lookWide 39 = .ok (.if_icmp .ne 26, 3) := by decide +kernel
theorem dX9_lookWide_42 : decode cX9_lookWide 42 = .ok (.aload_n 0, 1) := by decide +kernel
theorem dX9_lookWide_43 : decode cX9_lookWide 43 = .ok (.getfield 22, 3) := by decide +kernel
theorem dX9_lookWide_46 : decode cX9_lookWide 46 = .ok (.iload_n 1, 1) := by decide +kernel
theorem dX9_lookWide_47 : decode cX9_lookWide 47 = .ok (.iaload, 1) := by decide +kernel
theorem dX9_lookWide_48 : decode cX9_lookWide 48 = .ok (.i2l, 1) := by decide +kernel
theorem dX9_lookWide_49 : decode cX9_lookWide 49 = .ok (.lconst 0, 1) := by decide +kernel
theorem dX9_lookWide_50 : decode cX9_lookWide 50 = .ok (.aload_n 0, 1) := by decide +kernel
theorem dX9_lookWide_51 : decode cX9_lookWide 51 = .ok (.getfield 204, 3) := by decide +kernel
theorem dX9_lookWide_54 : decode cX9_lookWide 54 = .ok (.iconst 1, 1) := by decide +kernel
theorem dX9_lookWide_55 : decode cX9_lookWide 55 = .ok (.isub, 1) := by decide +kernel
theorem dX9_lookWide_56 : decode cX9_lookWide 56 = .ok (.i2l, 1) := by decide +kernel
theorem dX9_lookWide_57 : decode cX9_lookWide 57 = .ok (.invokestatic 132, 3) := by decide +kernel
theorem dX9_lookWide_60 : decode cX9_lookWide 60 = .ok (.ifCond .ne 5, 3) := by decide +kernel
theorem dX9_lookWide_63 : decode cX9_lookWide 63 = .ok (.iconst 4, 1) := by decide +kernel
theorem dX9_lookWide_64 : decode cX9_lookWide 64 = .ok (.ireturn, 1) := by decide +kernel
theorem dX9_lookWide_65 : decode cX9_lookWide 65 = .ok (.iload_n 2, 1) := by decide +kernel
theorem dX9_lookWide_66 : decode cX9_lookWide 66 = .ok (.ifCond .ne 6, 3) := by decide +kernel
theorem dX9_lookWide_69 : decode cX9_lookWide 69 = .ok (.bipush 6, 2) := by decide +kernel
theorem dX9_lookWide_71 : decode cX9_lookWide 71 = .ok (.ireturn, 1) := by decide +kernel
theorem dX9_lookWide_72 : decode cX9_lookWide 72 = .ok (.aload_n 0, 1) := by decide +kernel
theorem dX9_lookWide_73 : decode cX9_lookWide 73 = .ok (.getfield 16, 3) := by decide +kernel
theorem dX9_lookWide_76 : decode cX9_lookWide 76 = .ok (.iload_n 1, 1) := by decide +kernel
theorem dX9_lookWide_77 : decode cX9_lookWide 77 = .ok (.iaload, 1) := by decide +kernel
theorem dX9_lookWide_78 : decode cX9_lookWide 78 = .ok (.iconst 1, 1) := by decide +kernel
theorem dX9_lookWide_79 : decode cX9_lookWide 79 = .ok (.if_icmp .ne 45, 3) := by decide +kernel
theorem dX9_lookWide_82 : decode cX9_lookWide 82 = .ok (.aload_n 0, 1) := by decide +kernel
theorem dX9_lookWide_83 : decode cX9_lookWide 83 = .ok (.aload_n 0, 1) := by decide +kernel
theorem dX9_lookWide_84 : decode cX9_lookWide 84 = .ok (.getfield 13, 3) := by decide +kernel
theorem dX9_lookWide_87 : decode cX9_lookWide 87 = .ok (.iload_n 1, 1) := by decide +kernel
theorem dX9_lookWide_88 : decode cX9_lookWide 88 = .ok (.iaload, 1) := by decide +kernel
theorem dX9_lookWide_89 : decode cX9_lookWide 89 = .ok (.invokevirtual 351, 3) := by decide +kernel
theorem dX9_lookWide_92 : decode cX9_lookWide 92 = .ok (.aload_n 0, 1) := by decide +kernel
theorem dX9_lookWide_93 : decode cX9_lookWide 93 = .ok (.getfield 106, 3) := by decide +kernel
theorem dX9_lookWide_96 : decode cX9_lookWide 96 = .ok (.aload_n 0, 1) := by decide +kernel
theorem dX9_lookWide_97 : decode cX9_lookWide 97 = .ok (.getfield 13, 3) := by decide +kernel
theorem dX9_lookWide_100 : decode cX9_lookWide 100 = .ok (.iload_n 1, 1) := by decide +kernel
theorem dX9_lookWide_101 : decode cX9_lookWide 101 = .ok (.iaload, 1) := by decide +kernel
theorem dX9_lookWide_102 : decode cX9_lookWide 102 = .ok (.iconst 4, 1) := by decide +kernel
theorem dX9_lookWide_103 : decode cX9_lookWide 103 = .ok (.iastore, 1) := by decide +kernel
theorem dX9_lookWide_104 : decode cX9_lookWide 104 = .ok (.aload_n 0, 1) := by decide +kernel
theorem dX9_lookWide_105 : decode cX9_lookWide 105 = .ok (.getfield 115, 3) := by decide +kernel
theorem dX9_lookWide_108 : decode cX9_lookWide 108 = .ok (.aload_n 0, 1) := by decide +kernel
theorem dX9_lookWide_109 : decode cX9_lookWide 109 = .ok (.getfield 13, 3) := by decide +kernel
theorem dX9_lookWide_112 : decode cX9_lookWide 112 = .ok (.iload_n 1, 1) := by decide +kernel
theorem dX9_lookWide_113 : decode cX9_lookWide 113 = .ok (.iaload, 1) := by decide +kernel
theorem dX9_lookWide_114 : decode cX9_lookWide 114 = .ok (.aload_n 0, 1) := by decide +kernel
theorem dX9_lookWide_115 : decode cX9_lookWide 115 = .ok (.getfield 22, 3) := by decide +kernel
theorem dX9_lookWide_118 : decode cX9_lookWide 118 = .ok (.iload_n 1, 1) := by decide +kernel
theorem dX9_lookWide_119 : decode cX9_lookWide 119 = .ok (.iaload, 1) := by decide +kernel
theorem dX9_lookWide_120 : decode cX9_lookWide 120 = .ok (.iastore, 1) := by decide +kernel
theorem dX9_lookWide_121 : decode cX9_lookWide 121 = .ok (.goto 40, 3) := by decide +kernel
theorem dX9_lookWide_124 : decode cX9_lookWide 124 = .ok (.aload_n 0, 1) := by decide +kernel
theorem dX9_lookWide_125 : decode cX9_lookWide 125 = .ok (.getfield 22, 3) := by decide +kernel
theorem dX9_lookWide_128 : decode cX9_lookWide 128 = .ok (.iload_n 1, 1) := by decide +kernel
theorem dX9_lookWide_129 : decode cX9_lookWide 129 = .ok (.iaload, 1) := by decide +kernel
theorem dX9_lookWide_130 : decode cX9_lookWide 130 = .ok (.i2l, 1) := by decide +kernel
theorem dX9_lookWide_131 : decode cX9_lookWide 131 = .ok (.ldc2_w 192, 3) := by decide +kernel
theorem dX9_lookWide_134 : decode cX9_lookWide 134 = .ok (.land, 1) := by decide +kernel
theorem dX9_lookWide_135 : decode cX9_lookWide 135 = .ok (.aload_n 0, 1) := by decide +kernel
theorem dX9_lookWide_136 : decode cX9_lookWide 136 = .ok (.getfield 22, 3) := by decide +kernel
theorem dX9_lookWide_139 : decode cX9_lookWide 139 = .ok (.iload_n 1, 1) := by decide +kernel
theorem dX9_lookWide_140 : decode cX9_lookWide 140 = .ok (.iconst 1, 1) := by decide +kernel
theorem dX9_lookWide_141 : decode cX9_lookWide 141 = .ok (.iadd, 1) := by decide +kernel
theorem dX9_lookWide_142 : decode cX9_lookWide 142 = .ok (.iaload, 1) := by decide +kernel
theorem dX9_lookWide_143 : decode cX9_lookWide 143 = .ok (.i2l, 1) := by decide +kernel
theorem dX9_lookWide_144 : decode cX9_lookWide 144 = .ok (.bipush 32, 2) := by decide +kernel
theorem dX9_lookWide_146 : decode cX9_lookWide 146 = .ok (.lshl, 1) := by decide +kernel
theorem dX9_lookWide_147 : decode cX9_lookWide 147 = .ok (.lor, 1) := by decide +kernel
theorem dX9_lookWide_148 : decode cX9_lookWide 148 = .ok (.lstore_n 3, 1) := by decide +kernel
theorem dX9_lookWide_149 : decode cX9_lookWide 149 = .ok (.aload_n 0, 1) := by decide +kernel
theorem dX9_lookWide_150 : decode cX9_lookWide 150 = .ok (.aload_n 0, 1) := by decide +kernel
theorem dX9_lookWide_151 : decode cX9_lookWide 151 = .ok (.getfield 13, 3) := by decide +kernel
theorem dX9_lookWide_154 : decode cX9_lookWide 154 = .ok (.iload_n 1, 1) := by decide +kernel
theorem dX9_lookWide_155 : decode cX9_lookWide 155 = .ok (.iaload, 1) := by decide +kernel
theorem dX9_lookWide_156 : decode cX9_lookWide 156 = .ok (.lload_n 3, 1) := by decide +kernel
theorem dX9_lookWide_157 : decode cX9_lookWide 157 = .ok (.lload_n 3, 1) := by decide +kernel
theorem dX9_lookWide_158 : decode cX9_lookWide 158 = .ok (.invokevirtual 393, 3) := by decide +kernel
theorem dX9_lookWide_161 : decode cX9_lookWide 161 = .ok (.aload_n 0, 1) := by decide +kernel
theorem dX9_lookWide_162 : decode cX9_lookWide 162 = .ok (.iconst 0, 1) := by decide +kernel
theorem dX9_lookWide_163 : decode cX9_lookWide 163 = .ok (.iload_n 1, 1) := by decide +kernel
theorem dX9_lookWide_164 : decode cX9_lookWide 164 = .ok (.iconst 2, 1) := by decide +kernel
theorem dX9_lookWide_165 : decode cX9_lookWide 165 = .ok (.iadd, 1) := by decide +kernel
theorem dX9_lookWide_166 : decode cX9_lookWide 166 = .ok (.invokevirtual 367, 3) := by decide +kernel
theorem dX9_lookWide_169 : decode cX9_lookWide 169 = .ok (.ireturn, 1) := by decide +kernel
-- JudgedCodeModel.lookPut
def f_X9_lookPut_195 (S : sh) (k164 : Nat → Int32 → Int32 → Int32 → dt → Option (Int32 × dt)) (o0 : Nat) (x3 : Int32) (x10 : Int32) (x11 : Int32) (os0 : Nat) (xs1 : Int32) (xs2 : Int32) (D : dt) : Option (Int32 × dt) := ix xs1 (sA S os0) <| nm (pI D os0 xs1.toNatClampNeg (vp_nar .boolean xs2)) fun D66 => nm (x11 + 1) fun y67 => k164 o0 x3 x10 y67 D66
def f_X9_lookPut_164 (S : sh) : Nat → Nat → Int32 → Int32 → Int32 → dt → Option (Int32 × dt)
  | 0, _, _, _, _, _ => none
  | n + 1, o0, x3, x10, x11, D => if (x10 + (8 : Int32)) ≤ x11 then (some ((0 : Int32), D)) else (rq (gR D o0 45) fun o69 => rq (gR D o0 40) fun o73 => ix x3 (sA S o73) <| if (gI D o73 x3.toNatClampNeg) = (1 : Int32) then (f_X9_lookPut_195 S (f_X9_lookPut_164 S n) o0 x3 x10 x11 o69 x11 (1 : Int32) D) else (f_X9_lookPut_195 S (f_X9_lookPut_164 S n) o0 x3 x10 x11 o69 x11 (0 : Int32) D))
def f_X9_lookPut_101 (S : sh) (o0 : Nat) (x1 : Int32) (x2 : Int32) (x3 : Int32) (x4 : Int32) (x5 : Int32) (x6 : Int64) (x8 : Int32) (D : dt) : Option (Int32 × dt) := rq (gR D o0 4) fun o79 => ix x1 (sA S o79) <| pq (f_X9_access S D o0 x4 (gI D o79 x1.toNatClampNeg) x2 (1 : Int32)) fun r85 => if 0 < r85 then (some (r85, D)) else (if x5 = 0 then (some (r85, D)) else (nm (x6.toInt32) fun y88 => cq (f_X9_put_ S o0 y88 x2 D) fun _ D90 => if x8 = 0 then (some ((0 : Int32), D90)) else (cq (f_X9_same S o0 x3 ((11 : Int32) + (y88 / (8 : Int32))) D90) fun _ D93 => f_X9_lookPut_164 S LF o0 x3 y88 y88 D93)))
def f_X9_lookPut_78 (S : sh) (o0 : Nat) (x1 : Int32) (x2 : Int32) (x3 : Int32) (x4 : Int32) (x5 : Int32) (x6 : Int64) (xs0 : Int32) (D : dt) : Option (Int32 × dt) := if x3 < 0 then (f_X9_lookPut_101 S o0 x1 x2 x3 x4 x5 x6 xs0 D) else (rq (gR D o0 40) fun o95 => ix x3 (sA S o95) <| if (gI D o95 x3.toNatClampNeg) = (1 : Int32) then (f_X9_lookPut_101 S o0 x1 x2 x3 x4 x5 x6 xs0 D) else (if xs0 = 0 then (some ((3 : Int32), D)) else (f_X9_lookPut_101 S o0 x1 x2 x3 x4 x5 x6 xs0 D)))
def f_X9_lookPut_77 (S : sh) (o0 : Nat) (x1 : Int32) (x2 : Int32) (x3 : Int32) (x4 : Int32) (x5 : Int32) (x6 : Int64) (D : dt) : Option (Int32 × dt) := f_X9_lookPut_78 S o0 x1 x2 x3 x4 x5 x6 (0 : Int32) D
def f_X9_lookPut_24 (S : sh) (o0 : Nat) (x1 : Int32) (x2 : Int32) (x3 : Int32) (x4 : Int32) (xs0 : Int32) (D : dt) : Option (Int32 × dt) := rq (gR D o0 41) fun o102 => ix x4 (sA S o102) <| rq (gR D o0 4) fun o107 => ix x1 (sA S o107) <| nm (((gL D o102 x4.toNatClampNeg) + ((gI D o107 x1.toNatClampNeg).toInt64)) + (512 : Int64)) fun y112 => if x3 < 0 then (f_X9_lookPut_77 S o0 x1 x2 x3 x4 xs0 y112 D) else (if x2 = (8 : Int32) then (if xs0 = 0 then (f_X9_lookPut_77 S o0 x1 x2 x3 x4 xs0 y112 D) else (if (lg_cmp (y112 &&& (7 : Int64)) (0 : Int64)) = 0 then (f_X9_lookPut_78 S o0 x1 x2 x3 x4 xs0 y112 (1 : Int32) D) else (f_X9_lookPut_77 S o0 x1 x2 x3 x4 xs0 y112 D))) else (f_X9_lookPut_77 S o0 x1 x2 x3 x4 xs0 y112 D))
def f_X9_lookPut (S : sh) (o0 : Nat) (x1 : Int32) (x2 : Int32) (x3 : Int32) (D : dt) : Option (Int32 × dt) := rq (gR D o0 2) fun o117 => ix x1 (sA S o117) <| nm (gI D o117 x1.toNatClampNeg) fun y122 => rq (gR D o0 40) fun o123 => ix y122 (sA S o123) <| if (gI D o123 y122.toNatClampNeg) = (3 : Int32) then (f_X9_lookPut_24 S o0 x1 x2 x3 y122 (1 : Int32) D) else (f_X9_lookPut_24 S o0 x1 x2 x3 y122 (0 : Int32) D)
-- JudgedCodeModel.lookBoth
def f_X9_lookBoth_175 (S : sh) (o0 : Nat) (x1 : Int32) (x2 : Int32) (x4 : Int32) (x5 : Int32) (D : dt) : Option (Int32 × dt) := if x5 = 0 then (rq (gR D o0 5) fun o98 => ix x1 (sA S o98) <| if ((gI D o98 x1.toNatClampNeg) &&& (1 : Int32)) = (1 : Int32) then (pq (f_X9_mostOf x2) fun r105 => cq (f_X9_number S o0 x4 (0 : Int64) r105 D) fun _ D107 => some ((0 : Int32), D107)) else (some ((0 : Int32), D))) else (pq (f_X9_mostOf x2) fun r109 => cq (f_X9_number S o0 (0 : Int32) (0 : Int64) r109 D) fun _ D111 => some ((0 : Int32), D111))
def f_X9_lookBoth_118 (S : sh) (o0 : Nat) (x1 : Int32) (x2 : Int32) (x3 : Int32) (x4 : Int32) (x5 : Int32) (x6 : Int32) (D : dt) : Option (Int32 × dt) := if x6 ≤ 0 then (rq (gR D o0 40) fun o113 => ix x3 (sA S o113) <| if (gI D o113 x3.toNatClampNeg) = (3 : Int32) then (rq (gR D o0 41) fun o119 => ix x3 (sA S o119) <| rq (gR D o0 4) fun o124 => ix x1 (sA S o124) <| nm ((((gL D o119 x3.toNatClampNeg).toInt32) + (gI D o124 x1.toNatClampNeg)) + (512 : Int32)) fun y129 => pq (f_X9_areKnown S D o0 y129 x2) fun r131 => if r131 = 0 then (some ((4 : Int32), D)) else (cq (f_X9_put_ S o0 y129 x2 D) fun _ D134 => f_X9_lookBoth_175 S o0 x1 x2 x4 x5 D134)) else (f_X9_lookBoth_175 S o0 x1 x2 x4 x5 D)) else (some (x6, D))
def f_X9_lookBoth_69 (S : sh) (o0 : Nat) (x1 : Int32) (x2 : Int32) (x3 : Int32) (x4 : Int32) (x5 : Int32) (D : dt) : Option (Int32 × dt) := rq (gR D o0 4) fun o135 => ix x1 (sA S o135) <| pq (f_X9_access S D o0 x3 (gI D o135 x1.toNatClampNeg) x2 (1 : Int32)) fun r141 => if r141 = (3 : Int32) then (some ((3 : Int32), D)) else (rq (gR D o0 40) fun o143 => ix x4 (sA S o143) <| if (gI D o143 x4.toNatClampNeg) = (1 : Int32) then (if x5 = 0 then (f_X9_lookBoth_118 S o0 x1 x2 x3 x4 x5 r141 D) else (rq (gR D o0 40) fun o150 => ix (0 : Int32) (sA S o150) <| if (gI D o150 (0 : Int32).toNatClampNeg) = (1 : Int32) then (f_X9_lookBoth_118 S o0 x1 x2 x3 x4 x5 r141 D) else (some ((3 : Int32), D)))) else (some ((3 : Int32), D)))
def f_X9_lookBoth_32 (S : sh) (o0 : Nat) (x1 : Int32) (x2 : Int32) (x3 : Int32) (x4 : Int32) (xs0 : Int32) (D : dt) : Option (Int32 × dt) := rq (gR D o0 40) fun o156 => ix x3 (sA S o156) <| if (gI D o156 x3.toNatClampNeg) = 0 then (some ((2 : Int32), D)) else (rq (gR D o0 40) fun o162 => ix x4 (sA S o162) <| if (gI D o162 x4.toNatClampNeg) = 0 then (some ((2 : Int32), D)) else (if xs0 = 0 then (f_X9_lookBoth_69 S o0 x1 x2 x3 x4 xs0 D) else (rq (gR D o0 40) fun o169 => ix (0 : Int32) (sA S o169) <| if (gI D o169 (0 : Int32).toNatClampNeg) = 0 then (some ((2 : Int32), D)) else (f_X9_lookBoth_69 S o0 x1 x2 x3 x4 xs0 D))))
def f_X9_lookBoth (S : sh) (o0 : Nat) (x1 : Int32) (x2 : Int32) (D : dt) : Option (Int32 × dt) := rq (gR D o0 2) fun o175 => ix x1 (sA S o175) <| nm (gI D o175 x1.toNatClampNeg) fun y180 => rq (gR D o0 3) fun o181 => ix x1 (sA S o181) <| nm (gI D o181 x1.toNatClampNeg) fun y186 => rq (gR D o0 5) fun o187 => ix x1 (sA S o187) <| if (gI D o187 x1.toNatClampNeg) = (241 : Int32) then (f_X9_lookBoth_32 S o0 x1 x2 y180 y186 (1 : Int32) D) else (f_X9_lookBoth_32 S o0 x1 x2 y180 y186 (0 : Int32) D)
-- JudgedCodeModel.lookWide
def f_X9_lookWide_161 (S : sh) (o0 : Nat) (x1 : Int32) (D : dt) : Option (Int32 × dt) := cq (f_X9_onward S o0 (0 : Int32) (x1 + (2 : Int32)) D) fun r83 D84 => some (r83, D84)
def f_X9_lookWide_65 (S : sh) (o0 : Nat) (x1 : Int32) (x2 : Int32) (D : dt) : Option (Int32 × dt) := if x2 = 0 then (some ((6 : Int32), D)) else (rq (gR D o0 3) fun o86 => ix x1 (sA S o86) <| if (gI D o86 x1.toNatClampNeg) = (1 : Int32) then (rq (gR D o0 2) fun o110 => ix x1 (sA S o110) <| cq (f_X9_forget S o0 (gI D o110 x1.toNatClampNeg) D) fun _ D116 => rq (gR D116 o0 40) fun o117 => rq (gR D116 o0 2) fun o121 => ix x1 (sA S o121) <| ix (gI D116 o121 x1.toNatClampNeg) (sA S o117) <| nm (pI D116 o117 (gI D116 o121 x1.toNatClampNeg).toNatClampNeg (4 : Int32)) fun D127 => rq (gR D127 o0 43) fun o128 => rq (gR D127 o0 2) fun o132 => ix x1 (sA S o132) <| rq (gR D127 o0 5) fun o137 => ix x1 (sA S o137) <| ix (gI D127 o132 x1.toNatClampNeg) (sA S o128) <| nm (pI D127 o128 (gI D127 o132 x1.toNatClampNeg).toNatClampNeg (gI D127 o137 x1.toNatClampNeg)) fun D143 => f_X9_lookWide_161 S o0 x1 D143) else (rq (gR D o0 5) fun o92 => ix x1 (sA S o92) <| rq (gR D o0 5) fun o97 => ix (x1 + (1 : Int32)) (sA S o97) <| nm ((((gI D o92 x1.toNatClampNeg).toInt64) &&& (4294967295 : Int64)) ||| (j_lshl ((gI D o97 (x1 + (1 : Int32)).toNatClampNeg).toInt64) (32 : Int32))) fun y102 => rq (gR D o0 2) fun o103 => ix x1 (sA S o103) <| cq (f_X9_number S o0 (gI D o103 x1.toNatClampNeg) y102 y102 D) fun _ D109 => f_X9_lookWide_161 S o0 x1 D109))
def f_X9_lookWide_32 (S : sh) (o0 : Nat) (x1 : Int32) (x2 : Int32) (D : dt) : Option (Int32 × dt) := rq (gR D o0 3) fun o144 => ix x1 (sA S o144) <| if (gI D o144 x1.toNatClampNeg) = (1 : Int32) then (rq (gR D o0 5) fun o150 => ix x1 (sA S o150) <| pq (f_X9_in ((gI D o150 x1.toNatClampNeg).toInt64) (0 : Int64) (((gI D o0 9) - (1 : Int32)).toInt64)) fun r156 => if r156 = 0 then (some ((4 : Int32), D)) else (f_X9_lookWide_65 S o0 x1 x2 D)) else (f_X9_lookWide_65 S o0 x1 x2 D)
def f_X9_lookWide_15 (S : sh) (o0 : Nat) (x1 : Int32) (xs0 : Int32) (D : dt) : Option (Int32 × dt) := if xs0 = 0 then (f_X9_lookWide_32 S o0 x1 xs0 D) else (pq (f_X9_isSecond S D o0 (x1 + (1 : Int32))) fun r160 => if r160 = 0 then (some ((1 : Int32), D)) else (f_X9_lookWide_32 S o0 x1 xs0 D))
def f_X9_lookWide (S : sh) (o0 : Nat) (x1 : Int32) (D : dt) : Option (Int32 × dt) := if (gI D o0 0) ≤ (x1 + (1 : Int32)) then (f_X9_lookWide_15 S o0 x1 (0 : Int32) D) else (f_X9_lookWide_15 S o0 x1 (1 : Int32) D)
theorem mk_X9_lookPut : MkV yX9_lookPut RX9 cX9_lookPut 12 (some .int) 3 := ⟨⟨lk_1579, lk_109, lk_121, (tb_in (i := 1580) (by decide +kernel) (by decide +kernel))⟩, by decide +kernel⟩
theorem mk_X9_lookBoth : MkV yX9_lookBoth RX9 cX9_lookBoth 8 (some .int) 2 := ⟨⟨lk_1589, lk_111, lk_121, (tb_in (i := 1590) (by decide +kernel) (by decide +kernel))⟩, by decide +kernel⟩
theorem mk_X9_lookWide : MkV yX9_lookWide RX9 cX9_lookWide 5 (some .int) 1 := ⟨⟨lk_1593, lk_112, lk_121, (tb_in (i := 1594) (by decide +kernel) (by decide +kernel))⟩, by decide +kernel⟩
section
variable {p : Program} {l : Launch} {e : Env} {R : Room} {s : State} {m : MethodId} {args : Array Value} {below : List Frame} {meth : Method} {c : Code} {H : Heap} {locs : List Loc} {G : va_G} {cA : Nat → ClassId} {S : sh} {D : dt} {ad : Nat → Nat} {A : Nat → Prop}
set_option maxHeartbeats 4000000 in
set_option maxRecDepth 100000 in
theorem w_X9_lookPut_195 {r : Int32} {D' : dt} (hC : Cx RX9 cX9_lookPut 12 (some .int) p s m args meth c) (hR : 2 ≤ R.frames ∧ 44 ≤ R.locals) {k164 : Nat → Int32 → Int32 → Int32 → dt → Option (Int32 × dt)} (hk164 : ∀ (o0 a0 : Nat) (x3 : Int32) (x10 : Int32) (x11 : Int32) (D : dt) (H : Heap) (locs : List Loc) (ls : Array Slot), Is S ad o0 a0 8 → Wd G cA S D ad A s H locs → lv_has ls 12 [(0, .ref a0), (3, .int x3), (10, .int x10), (11, .int x11)] → k164 o0 x3 x10 x11 D = some (r, D') → W p l e R s m args below meth c H locs 0 0 (MQ below (Qn (some (.int r)) True (wpost G cA S D' ad A) A) args s 0 0 A) (F0 m 164 ls [])) : ∀ (o0 a0 : Nat) (x3 : Int32) (x10 : Int32) (x11 : Int32) (os0 as0 : Nat) (xs1 : Int32) (xs2 : Int32) (D : dt) (H : Heap) (locs : List Loc) (ls : Array Slot), Is S ad o0 a0 8 → Is S ad os0 as0 103 → Wd G cA S D ad A s H locs → lv_has ls 12 [(0, .ref a0), (3, .int x3), (10, .int x10), (11, .int x11)] → f_X9_lookPut_195 S k164 o0 x3 x10 x11 os0 xs1 xs2 D = some (r, D') → W p l e R s m args below meth c H locs 0 0 (MQ below (Qn (some (.int r)) True (wpost G cA S D' ad A) A) args s 0 0 A) (F0 m 195 ls [.int xs2, .int xs1, .ref as0]) := by
  obtain ⟨hx, hb, -⟩ := id hC
  intro o0 a0 x3 x10 x11 os0 as0 xs1 xs2 D H locs ls hi0 his0 hw hl h
  unfold f_X9_lookPut_195 at h
  obtain ⟨hn65, h⟩ := ix_i h
  refine r_zas hC hw his0 hn65 dX9_lookPut_195 (fun D66 eD66 H locs hw => ?_)
  have h := nm_i h D66 eD66
  obtain ⟨y67, ey67⟩ : ∃ z : Int32, z = x11 + 1 := ⟨_, rfl⟩
  have h := nm_i h y67 ey67
  refine lv_iinc (v := y67) (lv' := [(11, .int y67), (0, .ref a0), (3, .int x3), (10, .int x10)]) hx hb dX9_lookPut_196 hl (k := 3) rfl (by rw [ey67]; rfl) (by decide) rfl (fun ls hl => ?_)
  refine lv_goto (tgt := 164) hx hb dX9_lookPut_199 (by decide) ?_
  exact hk164 o0 a0 x3 x10 y67 _ _ _ _ hi0 hw (lv_sub hl [1, 2, 3, 0] rfl) h
set_option maxHeartbeats 4000000 in
set_option maxRecDepth 100000 in
theorem w_X9_lookPut_164 {r : Int32} {D' : dt} (hC : Cx RX9 cX9_lookPut 12 (some .int) p s m args meth c) (hR : 2 ≤ R.frames ∧ 44 ≤ R.locals) : ∀ (n : Nat), ∀ (o0 a0 : Nat) (x3 : Int32) (x10 : Int32) (x11 : Int32) (D : dt) (H : Heap) (locs : List Loc) (ls : Array Slot), Is S ad o0 a0 8 → Wd G cA S D ad A s H locs → lv_has ls 12 [(0, .ref a0), (3, .int x3), (10, .int x10), (11, .int x11)] → f_X9_lookPut_164 S n o0 x3 x10 x11 D = some (r, D') → W p l e R s m args below meth c H locs 0 0 (MQ below (Qn (some (.int r)) True (wpost G cA S D' ad A) A) args s 0 0 A) (F0 m 164 ls []) := by
  obtain ⟨hx, hb, -⟩ := id hC
  intro n
  induction n with
  | zero =>
    intro o0 a0 x3 x10 x11 D H locs ls hi0 hw hl h
    rw [f_X9_lookPut_164.eq_1] at h
    cases h
  | succ n ih =>
    intro o0 a0 x3 x10 x11 D H locs ls hi0 hw hl h
    rw [f_X9_lookPut_164.eq_2] at h
    refine lv_iload hx hb dX9_lookPut_164 (lv_at hl 3 rfl) ?_
    refine lv_iload hx hb dX9_lookPut_166 (lv_at hl 2 rfl) ?_
    refine lv_bipush (v := 8) hx hb dX9_lookPut_168 (by decide) ?_
    refine lv_iadd hx hb dX9_lookPut_170 ?_
    refine lv_icmp_ge (tgt := 202) hx hb dX9_lookPut_171 (by decide) (fun c68 => ?_) (fun c68 => ?_)
    · have h := i_yes c68 h
      refine lv_iconst (v := 0) hx hb dX9_lookPut_202 (by decide) ?_
      cases h
      exact r_iret hC hw dX9_lookPut_203
    · have h := i_no c68 h
      refine lv_aload_n hx hb dX9_lookPut_174 rfl (lv_at hl 0 rfl) ?_
      obtain ⟨o69, ho72, h⟩ := rq_i h
      refine r_getR hC hw kc_8 hi0 45 rfl lk_1117 dX9_lookPut_175 rfl ho72 (fun a70 hi71 => ?_)
      refine lv_iload hx hb dX9_lookPut_178 (lv_at hl 3 rfl) ?_
      refine lv_aload_n hx hb dX9_lookPut_180 rfl (lv_at hl 0 rfl) ?_
      obtain ⟨o73, ho76, h⟩ := rq_i h
      refine r_getR hC hw kc_8 hi0 40 rfl lk_1112 dX9_lookPut_181 rfl ho76 (fun a74 hi75 => ?_)
      refine lv_iload_n hx hb dX9_lookPut_184 rfl (lv_at hl 1 rfl) ?_
      obtain ⟨hn77, h⟩ := ix_i h
      refine r_iald hC hw hi75 hn77 dX9_lookPut_185 ?_
      refine lv_iconst (v := 1) hx hb dX9_lookPut_186 (by decide) ?_
      refine lv_icmp_ne (tgt := 194) hx hb dX9_lookPut_187 (by decide) (fun c78 => ?_) (fun c78 => ?_)
      · have h := i_no c78 h
        refine lv_iconst (v := 0) hx hb dX9_lookPut_194 (by decide) ?_
        exact w_X9_lookPut_195 hC hR ih o0 a0 x3 x10 x11 o69 a70 x11 (0 : Int32) _ _ _ _ hi0 hi71 hw (lv_sub hl [0, 1, 2, 3] rfl) h
      · have h := i_yes c78 h
        refine lv_iconst (v := 1) hx hb dX9_lookPut_190 (by decide) ?_
        refine lv_goto (tgt := 195) hx hb dX9_lookPut_191 (by decide) ?_
        exact w_X9_lookPut_195 hC hR ih o0 a0 x3 x10 x11 o69 a70 x11 (1 : Int32) _ _ _ _ hi0 hi71 hw (lv_sub hl [0, 1, 2, 3] rfl) h
set_option maxHeartbeats 4000000 in
set_option maxRecDepth 100000 in
theorem w_X9_lookPut_101 {r : Int32} {D' : dt} (hC : Cx RX9 cX9_lookPut 12 (some .int) p s m args meth c) (hR : 2 ≤ R.frames ∧ 44 ≤ R.locals) : ∀ (o0 a0 : Nat) (x1 : Int32) (x2 : Int32) (x3 : Int32) (x4 : Int32) (x5 : Int32) (x6 : Int64) (x8 : Int32) (D : dt) (H : Heap) (locs : List Loc) (ls : Array Slot), Is S ad o0 a0 8 → Wd G cA S D ad A s H locs → lv_has ls 12 [(0, .ref a0), (1, .int x1), (2, .int x2), (3, .int x3), (4, .int x4), (5, .int x5), (6, .long x6), (8, .int x8)] → f_X9_lookPut_101 S o0 x1 x2 x3 x4 x5 x6 x8 D = some (r, D') → W p l e R s m args below meth c H locs 0 0 (MQ below (Qn (some (.int r)) True (wpost G cA S D' ad A) A) args s 0 0 A) (F0 m 101 ls []) := by
  obtain ⟨hx, hb, -⟩ := id hC
  intro o0 a0 x1 x2 x3 x4 x5 x6 x8 D H locs ls hi0 hw hl h
  unfold f_X9_lookPut_101 at h
  refine lv_aload_n hx hb dX9_lookPut_101 rfl (lv_at hl 0 rfl) ?_
  refine lv_iload hx hb dX9_lookPut_102 (lv_at hl 4 rfl) ?_
  refine lv_aload_n hx hb dX9_lookPut_104 rfl (lv_at hl 0 rfl) ?_
  obtain ⟨o79, ho82, h⟩ := rq_i h
  refine r_getR hC hw kc_8 hi0 4 rfl lk_1076 dX9_lookPut_105 rfl ho82 (fun a80 hi81 => ?_)
  refine lv_iload_n hx hb dX9_lookPut_108 rfl (lv_at hl 1 rfl) ?_
  obtain ⟨hn83, h⟩ := ix_i h
  refine r_iald hC hw hi81 hn83 dX9_lookPut_109 ?_
  refine lv_iload_n hx hb dX9_lookPut_110 rfl (lv_at hl 2 rfl) ?_
  refine lv_iconst (v := 1) hx hb dX9_lookPut_111 (by decide) ?_
  obtain ⟨r85, hq84, h⟩ := pq_i h
  refine r_cV (st' := [.int r85]) [.int x4, .int (gI D o79 x1.toNatClampNeg), .int x2, .int (1 : Int32)] [] hC hw kc_8 hi0 (k_X9_access _ hi0 hq84) mk_X9_access lk_1561 ⟨Nat.le_trans (by decide) hR.1, Nat.le_trans (by decide) hR.2⟩ ⟨Nat.zero_le _, Nat.zero_le _⟩ rfl hl.1 rfl rfl (Nat.le_of_ble_eq_true rfl) dX9_lookPut_112 (fun hP H locs hw => ?_)
  refine lv_istore (lv' := [(9, .int r85), (0, .ref a0), (1, .int x1), (2, .int x2), (3, .int x3), (4, .int x4), (5, .int x5), (6, .long x6), (8, .int x8)]) hx hb dX9_lookPut_115 hl (by decide) rfl (fun ls hl => ?_)
  refine lv_iload hx hb dX9_lookPut_117 (lv_at hl 0 rfl) ?_
  refine lv_if_gt (tgt := 127) hx hb dX9_lookPut_119 (by decide) (fun c86 => ?_) (fun c86 => ?_)
  · have h := i_yes c86 h
    refine lv_iload hx hb dX9_lookPut_127 (lv_at hl 0 rfl) ?_
    cases h
    exact r_iret hC hw dX9_lookPut_129
  · have h := i_no c86 h
    refine lv_iload hx hb dX9_lookPut_122 (lv_at hl 6 rfl) ?_
    refine lv_if_ne (tgt := 130) hx hb dX9_lookPut_124 (by decide) (fun c87 => ?_) (fun c87 => ?_)
    · have h := i_no c87 h
      refine lv_lload hx hb dX9_lookPut_130 (lv_at hl 7 rfl) ?_
      refine lv_l2i (v := x6.toInt32) hx hb dX9_lookPut_132 rfl ?_
      refine lv_topi (fun y88 ey88 => ?_)
      have h := nm_i h y88 ey88
      refine lv_istore (lv' := [(10, .int y88), (9, .int r85), (0, .ref a0), (1, .int x1), (2, .int x2), (3, .int x3), (4, .int x4), (5, .int x5), (6, .long x6), (8, .int x8)]) hx hb dX9_lookPut_133 hl (by decide) rfl (fun ls hl => ?_)
      refine lv_aload_n hx hb dX9_lookPut_135 rfl (lv_at hl 2 rfl) ?_
      refine lv_iload hx hb dX9_lookPut_136 (lv_at hl 0 rfl) ?_
      refine lv_iload_n hx hb dX9_lookPut_138 rfl (lv_at hl 4 rfl) ?_
      obtain ⟨_, D90, hq89, h⟩ := cq_i h
      refine r_cV (st' := []) [.int y88, .int x2] [] hC hw kc_8 hi0 (k_X9_put_ _ hi0 hq89) mk_X9_put_ lk_1583 ⟨Nat.le_trans (by decide) hR.1, Nat.le_trans (by decide) hR.2⟩ ⟨Nat.zero_le _, Nat.zero_le _⟩ rfl hl.1 rfl rfl (Nat.le_of_ble_eq_true rfl) dX9_lookPut_139 (fun hP H locs hw => ?_)
      refine lv_iload hx hb dX9_lookPut_142 (lv_at hl 9 rfl) ?_
      refine lv_if_eq (tgt := 202) hx hb dX9_lookPut_144 (by decide) (fun c91 => ?_) (fun c91 => ?_)
      · have h := i_yes c91 h
        refine lv_iconst (v := 0) hx hb dX9_lookPut_202 (by decide) ?_
        cases h
        exact r_iret hC hw dX9_lookPut_203
      · have h := i_no c91 h
        refine lv_aload_n hx hb dX9_lookPut_147 rfl (lv_at hl 2 rfl) ?_
        refine lv_iload_n hx hb dX9_lookPut_148 rfl (lv_at hl 5 rfl) ?_
        refine lv_bipush (v := 11) hx hb dX9_lookPut_149 (by decide) ?_
        refine lv_iload hx hb dX9_lookPut_151 (lv_at hl 0 rfl) ?_
        refine lv_bipush (v := 8) hx hb dX9_lookPut_153 (by decide) ?_
        refine lv_idiv hx hb dX9_lookPut_155 (by decide) ?_
        refine lv_iadd hx hb dX9_lookPut_156 ?_
        obtain ⟨_, D93, hq92, h⟩ := cq_i h
        refine r_cV (st' := []) [.int x3, .int ((11 : Int32) + (y88 / (8 : Int32)))] [] hC hw kc_8 hi0 (k_X9_same _ hi0 hq92) mk_X9_same lk_1488 ⟨Nat.le_trans (by decide) hR.1, Nat.le_trans (by decide) hR.2⟩ ⟨Nat.zero_le _, Nat.zero_le _⟩ rfl hl.1 rfl rfl (Nat.le_of_ble_eq_true rfl) dX9_lookPut_157 (fun hP H locs hw => ?_)
        refine lv_iload hx hb dX9_lookPut_160 (lv_at hl 0 rfl) ?_
        refine lv_istore (lv' := [(11, .int y88), (10, .int y88), (9, .int r85), (0, .ref a0), (1, .int x1), (2, .int x2), (3, .int x3), (4, .int x4), (5, .int x5), (6, .long x6), (8, .int x8)]) hx hb dX9_lookPut_162 hl (by decide) rfl (fun ls hl => ?_)
        exact w_X9_lookPut_164 hC hR LF o0 a0 x3 y88 y88 _ _ _ _ hi0 hw (lv_sub hl [3, 6, 1, 0] rfl) h
    · have h := i_yes c87 h
      refine lv_iload hx hb dX9_lookPut_127 (lv_at hl 0 rfl) ?_
      cases h
      exact r_iret hC hw dX9_lookPut_129
set_option maxHeartbeats 4000000 in
set_option maxRecDepth 100000 in
theorem w_X9_lookPut_78 {r : Int32} {D' : dt} (hC : Cx RX9 cX9_lookPut 12 (some .int) p s m args meth c) (hR : 2 ≤ R.frames ∧ 44 ≤ R.locals) : ∀ (o0 a0 : Nat) (x1 : Int32) (x2 : Int32) (x3 : Int32) (x4 : Int32) (x5 : Int32) (x6 : Int64) (xs0 : Int32) (D : dt) (H : Heap) (locs : List Loc) (ls : Array Slot), Is S ad o0 a0 8 → Wd G cA S D ad A s H locs → lv_has ls 12 [(0, .ref a0), (1, .int x1), (2, .int x2), (3, .int x3), (4, .int x4), (5, .int x5), (6, .long x6)] → f_X9_lookPut_78 S o0 x1 x2 x3 x4 x5 x6 xs0 D = some (r, D') → W p l e R s m args below meth c H locs 0 0 (MQ below (Qn (some (.int r)) True (wpost G cA S D' ad A) A) args s 0 0 A) (F0 m 78 ls [.int xs0]) := by
  obtain ⟨hx, hb, -⟩ := id hC
  intro o0 a0 x1 x2 x3 x4 x5 x6 xs0 D H locs ls hi0 hw hl h
  unfold f_X9_lookPut_78 at h
  refine lv_istore (lv' := [(8, .int xs0), (0, .ref a0), (1, .int x1), (2, .int x2), (3, .int x3), (4, .int x4), (5, .int x5), (6, .long x6)]) hx hb dX9_lookPut_78 hl (by decide) rfl (fun ls hl => ?_)
  refine lv_iload_n hx hb dX9_lookPut_80 rfl (lv_at hl 4 rfl) ?_
  refine lv_if_lt (tgt := 101) hx hb dX9_lookPut_81 (by decide) (fun c94 => ?_) (fun c94 => ?_)
  · have h := i_yes c94 h
    exact w_X9_lookPut_101 hC hR o0 a0 x1 x2 x3 x4 x5 x6 xs0 _ _ _ _ hi0 hw (lv_sub hl [1, 2, 3, 4, 5, 6, 7, 0] rfl) h
  · have h := i_no c94 h
    refine lv_aload_n hx hb dX9_lookPut_84 rfl (lv_at hl 1 rfl) ?_
    obtain ⟨o95, ho98, h⟩ := rq_i h
    refine r_getR hC hw kc_8 hi0 40 rfl lk_1112 dX9_lookPut_85 rfl ho98 (fun a96 hi97 => ?_)
    refine lv_iload_n hx hb dX9_lookPut_88 rfl (lv_at hl 4 rfl) ?_
    obtain ⟨hn99, h⟩ := ix_i h
    refine r_iald hC hw hi97 hn99 dX9_lookPut_89 ?_
    refine lv_iconst (v := 1) hx hb dX9_lookPut_90 (by decide) ?_
    refine lv_icmp_eq (tgt := 101) hx hb dX9_lookPut_91 (by decide) (fun c100 => ?_) (fun c100 => ?_)
    · have h := i_yes c100 h
      exact w_X9_lookPut_101 hC hR o0 a0 x1 x2 x3 x4 x5 x6 xs0 _ _ _ _ hi0 hw (lv_sub hl [1, 2, 3, 4, 5, 6, 7, 0] rfl) h
    · have h := i_no c100 h
      refine lv_iload hx hb dX9_lookPut_94 (lv_at hl 0 rfl) ?_
      refine lv_if_ne (tgt := 101) hx hb dX9_lookPut_96 (by decide) (fun c101 => ?_) (fun c101 => ?_)
      · have h := i_no c101 h
        exact w_X9_lookPut_101 hC hR o0 a0 x1 x2 x3 x4 x5 x6 xs0 _ _ _ _ hi0 hw (lv_sub hl [1, 2, 3, 4, 5, 6, 7, 0] rfl) h
      · have h := i_yes c101 h
        refine lv_iconst (v := 3) hx hb dX9_lookPut_99 (by decide) ?_
        cases h
        exact r_iret hC hw dX9_lookPut_100
set_option maxHeartbeats 4000000 in
set_option maxRecDepth 100000 in
theorem w_X9_lookPut_77 {r : Int32} {D' : dt} (hC : Cx RX9 cX9_lookPut 12 (some .int) p s m args meth c) (hR : 2 ≤ R.frames ∧ 44 ≤ R.locals) : ∀ (o0 a0 : Nat) (x1 : Int32) (x2 : Int32) (x3 : Int32) (x4 : Int32) (x5 : Int32) (x6 : Int64) (D : dt) (H : Heap) (locs : List Loc) (ls : Array Slot), Is S ad o0 a0 8 → Wd G cA S D ad A s H locs → lv_has ls 12 [(0, .ref a0), (1, .int x1), (2, .int x2), (3, .int x3), (4, .int x4), (5, .int x5), (6, .long x6)] → f_X9_lookPut_77 S o0 x1 x2 x3 x4 x5 x6 D = some (r, D') → W p l e R s m args below meth c H locs 0 0 (MQ below (Qn (some (.int r)) True (wpost G cA S D' ad A) A) args s 0 0 A) (F0 m 77 ls []) := by
  obtain ⟨hx, hb, -⟩ := id hC
  intro o0 a0 x1 x2 x3 x4 x5 x6 D H locs ls hi0 hw hl h
  unfold f_X9_lookPut_77 at h
  refine lv_iconst (v := 0) hx hb dX9_lookPut_77 (by decide) ?_
  exact w_X9_lookPut_78 hC hR o0 a0 x1 x2 x3 x4 x5 x6 (0 : Int32) _ _ _ _ hi0 hw (lv_sub hl [0, 1, 2, 3, 4, 5, 6] rfl) h
set_option maxHeartbeats 4000000 in
set_option maxRecDepth 100000 in
theorem w_X9_lookPut_24 {r : Int32} {D' : dt} (hC : Cx RX9 cX9_lookPut 12 (some .int) p s m args meth c) (hR : 2 ≤ R.frames ∧ 44 ≤ R.locals) : ∀ (o0 a0 : Nat) (x1 : Int32) (x2 : Int32) (x3 : Int32) (x4 : Int32) (xs0 : Int32) (D : dt) (H : Heap) (locs : List Loc) (ls : Array Slot), Is S ad o0 a0 8 → Wd G cA S D ad A s H locs → lv_has ls 12 [(0, .ref a0), (1, .int x1), (2, .int x2), (3, .int x3), (4, .int x4)] → f_X9_lookPut_24 S o0 x1 x2 x3 x4 xs0 D = some (r, D') → W p l e R s m args below meth c H locs 0 0 (MQ below (Qn (some (.int r)) True (wpost G cA S D' ad A) A) args s 0 0 A) (F0 m 24 ls [.int xs0]) := by
  obtain ⟨hx, hb, -⟩ := id hC
  intro o0 a0 x1 x2 x3 x4 xs0 D H locs ls hi0 hw hl h
  unfold f_X9_lookPut_24 at h
  refine lv_istore (lv' := [(5, .int xs0), (0, .ref a0), (1, .int x1), (2, .int x2), (3, .int x3), (4, .int x4)]) hx hb dX9_lookPut_24 hl (by decide) rfl (fun ls hl => ?_)
  refine lv_aload_n hx hb dX9_lookPut_26 rfl (lv_at hl 1 rfl) ?_
  obtain ⟨o102, ho105, h⟩ := rq_i h
  refine r_getR hC hw kc_8 hi0 41 rfl lk_1113 dX9_lookPut_27 rfl ho105 (fun a103 hi104 => ?_)
  refine lv_iload hx hb dX9_lookPut_30 (lv_at hl 5 rfl) ?_
  obtain ⟨hn106, h⟩ := ix_i h
  refine r_lald hC hw hi104 hn106 dX9_lookPut_32 ?_
  refine lv_aload_n hx hb dX9_lookPut_33 rfl (lv_at hl 1 rfl) ?_
  obtain ⟨o107, ho110, h⟩ := rq_i h
  refine r_getR hC hw kc_8 hi0 4 rfl lk_1076 dX9_lookPut_34 rfl ho110 (fun a108 hi109 => ?_)
  refine lv_iload_n hx hb dX9_lookPut_37 rfl (lv_at hl 2 rfl) ?_
  obtain ⟨hn111, h⟩ := ix_i h
  refine r_iald hC hw hi109 hn111 dX9_lookPut_38 ?_
  refine lv_i2l (v := (gI D o107 x1.toNatClampNeg).toInt64) hx hb dX9_lookPut_39 rfl ?_
  refine lv_ladd hx hb dX9_lookPut_40 ?_
  refine lv_ldc2 (v := 512) hx hb hC.2.2.2.1 (hC.2.2.2.2.1 _ lk_1581) dX9_lookPut_41 ?_
  refine lv_ladd hx hb dX9_lookPut_44 ?_
  refine lv_topl (fun y112 ey112 => ?_)
  have h := nm_i h y112 ey112
  refine lv_lstore (lv' := [(6, .long y112), (5, .int xs0), (0, .ref a0), (1, .int x1), (2, .int x2), (3, .int x3), (4, .int x4)]) hx hb dX9_lookPut_45 hl (by decide) rfl (fun ls hl => ?_)
  refine lv_iload_n hx hb dX9_lookPut_47 rfl (lv_at hl 5 rfl) ?_
  refine lv_if_lt (tgt := 77) hx hb dX9_lookPut_48 (by decide) (fun c113 => ?_) (fun c113 => ?_)
  · have h := i_yes c113 h
    exact w_X9_lookPut_77 hC hR o0 a0 x1 x2 x3 x4 xs0 y112 _ _ _ _ hi0 hw (lv_sub hl [2, 3, 4, 5, 6, 1, 0] rfl) h
  · have h := i_no c113 h
    refine lv_iload_n hx hb dX9_lookPut_51 rfl (lv_at hl 4 rfl) ?_
    refine lv_bipush (v := 8) hx hb dX9_lookPut_52 (by decide) ?_
    refine lv_icmp_ne (tgt := 77) hx hb dX9_lookPut_54 (by decide) (fun c114 => ?_) (fun c114 => ?_)
    · have h := i_no c114 h
      exact w_X9_lookPut_77 hC hR o0 a0 x1 x2 x3 x4 xs0 y112 _ _ _ _ hi0 hw (lv_sub hl [2, 3, 4, 5, 6, 1, 0] rfl) h
    · have h := i_yes c114 h
      refine lv_iload hx hb dX9_lookPut_57 (lv_at hl 1 rfl) ?_
      refine lv_if_eq (tgt := 77) hx hb dX9_lookPut_59 (by decide) (fun c115 => ?_) (fun c115 => ?_)
      · have h := i_yes c115 h
        exact w_X9_lookPut_77 hC hR o0 a0 x1 x2 x3 x4 xs0 y112 _ _ _ _ hi0 hw (lv_sub hl [2, 3, 4, 5, 6, 1, 0] rfl) h
      · have h := i_no c115 h
        refine lv_lload hx hb dX9_lookPut_62 (lv_at hl 0 rfl) ?_
        refine lv_ldc2 (v := 7) hx hb hC.2.2.2.1 (hC.2.2.2.2.1 _ lk_1582) dX9_lookPut_64 ?_
        refine lv_land hx hb dX9_lookPut_67 ?_
        refine lv_lconst (v := 0) hx hb dX9_lookPut_68 (by decide) ?_
        refine W.lcmp hx hb dX9_lookPut_69 ?_
        refine lv_if_ne (tgt := 77) hx hb dX9_lookPut_70 (by decide) (fun c116 => ?_) (fun c116 => ?_)
        · have h := i_no c116 h
          exact w_X9_lookPut_77 hC hR o0 a0 x1 x2 x3 x4 xs0 y112 _ _ _ _ hi0 hw (lv_sub hl [2, 3, 4, 5, 6, 1, 0] rfl) h
        · have h := i_yes c116 h
          refine lv_iconst (v := 1) hx hb dX9_lookPut_73 (by decide) ?_
          refine lv_goto (tgt := 78) hx hb dX9_lookPut_74 (by decide) ?_
          exact w_X9_lookPut_78 hC hR o0 a0 x1 x2 x3 x4 xs0 y112 (1 : Int32) _ _ _ _ hi0 hw (lv_sub hl [2, 3, 4, 5, 6, 1, 0] rfl) h
set_option maxHeartbeats 4000000 in
set_option maxRecDepth 100000 in
theorem w_X9_lookPut_0 {r : Int32} {D' : dt} (hC : Cx RX9 cX9_lookPut 12 (some .int) p s m args meth c) (hR : 2 ≤ R.frames ∧ 44 ≤ R.locals) : ∀ (o0 a0 : Nat) (x1 : Int32) (x2 : Int32) (x3 : Int32) (D : dt) (H : Heap) (locs : List Loc) (ls : Array Slot), Is S ad o0 a0 8 → Wd G cA S D ad A s H locs → lv_has ls 12 [(0, .ref a0), (1, .int x1), (2, .int x2), (3, .int x3)] → f_X9_lookPut S o0 x1 x2 x3 D = some (r, D') → W p l e R s m args below meth c H locs 0 0 (MQ below (Qn (some (.int r)) True (wpost G cA S D' ad A) A) args s 0 0 A) (F0 m 0 ls []) := by
  obtain ⟨hx, hb, -⟩ := id hC
  intro o0 a0 x1 x2 x3 D H locs ls hi0 hw hl h
  unfold f_X9_lookPut at h
  refine lv_aload_n hx hb dX9_lookPut_0 rfl (lv_at hl 0 rfl) ?_
  obtain ⟨o117, ho120, h⟩ := rq_i h
  refine r_getR hC hw kc_8 hi0 2 rfl lk_1074 dX9_lookPut_1 rfl ho120 (fun a118 hi119 => ?_)
  refine lv_iload_n hx hb dX9_lookPut_4 rfl (lv_at hl 1 rfl) ?_
  obtain ⟨hn121, h⟩ := ix_i h
  refine r_iald hC hw hi119 hn121 dX9_lookPut_5 ?_
  refine lv_topi (fun y122 ey122 => ?_)
  have h := nm_i h y122 ey122
  refine lv_istore (lv' := [(4, .int y122), (0, .ref a0), (1, .int x1), (2, .int x2), (3, .int x3)]) hx hb dX9_lookPut_6 hl (by decide) rfl (fun ls hl => ?_)
  refine lv_aload_n hx hb dX9_lookPut_8 rfl (lv_at hl 1 rfl) ?_
  obtain ⟨o123, ho126, h⟩ := rq_i h
  refine r_getR hC hw kc_8 hi0 40 rfl lk_1112 dX9_lookPut_9 rfl ho126 (fun a124 hi125 => ?_)
  refine lv_iload hx hb dX9_lookPut_12 (lv_at hl 0 rfl) ?_
  obtain ⟨hn127, h⟩ := ix_i h
  refine r_iald hC hw hi125 hn127 dX9_lookPut_14 ?_
  refine lv_iconst (v := 3) hx hb dX9_lookPut_15 (by decide) ?_
  refine lv_icmp_ne (tgt := 23) hx hb dX9_lookPut_16 (by decide) (fun c128 => ?_) (fun c128 => ?_)
  · have h := i_no c128 h
    refine lv_iconst (v := 0) hx hb dX9_lookPut_23 (by decide) ?_
    exact w_X9_lookPut_24 hC hR o0 a0 x1 x2 x3 y122 (0 : Int32) _ _ _ _ hi0 hw (lv_sub hl [1, 2, 3, 4, 0] rfl) h
  · have h := i_yes c128 h
    refine lv_iconst (v := 1) hx hb dX9_lookPut_19 (by decide) ?_
    refine lv_goto (tgt := 24) hx hb dX9_lookPut_20 (by decide) ?_
    exact w_X9_lookPut_24 hC hR o0 a0 x1 x2 x3 y122 (1 : Int32) _ _ _ _ hi0 hw (lv_sub hl [1, 2, 3, 4, 0] rfl) h
set_option maxHeartbeats 4000000 in
set_option maxRecDepth 100000 in
theorem k_X9_lookPut {l : Launch} {G : va_G} {cA : Nat → ClassId} {S : sh} {D D' : dt} {ad : Nat → Nat} (sz : Nat) {o0 a0 : Nat} {x1 : Int32} {x2 : Int32} {x3 : Int32} {r : Int32} (hi0 : Is S ad o0 a0 8) (h : f_X9_lookPut S o0 x1 x2 x3 D = some (r, D')) : Co l yX9_lookPut (Cond.code yX9_lookPut cX9_lookPut 12 (some .int) :: tb0) 2 44 [.ref a0, .int x1, .int x2, .int x3] G cA S D ad sz (some (.int r)) True D' := by
  refine Met.ofW (cc := cX9_lookPut) (maxL := 12) (ret := (some .int)) (by decide) rfl ?_
  intro p e s m args below meth c s₁ B hml hv
  obtain ⟨rfl, hsz, hP, hK, hD0, hT, hX⟩ := hv
  subst hsz
  have hts := atoms_spec (ws := Cond.code yX9_lookPut cX9_lookPut 12 (some .int) :: tb0) B.pre
  have hC : Cx RX9 cX9_lookPut 12 (some .int) p s m _ meth c := ⟨B.exec, B.bytes, hml, findClass_of_methodNamed B.named, fun w q => hts w (List.mem_cons_of_mem _ q), B.returns, B.notSynchronized⟩
  have hw := Wd.entry hP hK hD0 hT hX
  have hl := lv_entry ([.ref a0, .int x1, .int x2, .int x3]) (n := 12) (Nat.le_of_ble_eq_true rfl)
  rw [lg_entry_eq]
  exact w_X9_lookPut_0 hC ⟨Nat.le_refl _, Nat.le_refl _⟩ o0 a0 x1 x2 x3 D _ _ _ hi0 hw hl h
set_option maxHeartbeats 4000000 in
set_option maxRecDepth 100000 in
theorem w_X9_lookBoth_175 {r : Int32} {D' : dt} (hC : Cx RX9 cX9_lookBoth 8 (some .int) p s m args meth c) (hR : 2 ≤ R.frames ∧ 44 ≤ R.locals) : ∀ (o0 a0 : Nat) (x1 : Int32) (x2 : Int32) (x4 : Int32) (x5 : Int32) (D : dt) (H : Heap) (locs : List Loc) (ls : Array Slot), Is S ad o0 a0 8 → Wd G cA S D ad A s H locs → lv_has ls 8 [(0, .ref a0), (1, .int x1), (2, .int x2), (4, .int x4), (5, .int x5)] → f_X9_lookBoth_175 S o0 x1 x2 x4 x5 D = some (r, D') → W p l e R s m args below meth c H locs 0 0 (MQ below (Qn (some (.int r)) True (wpost G cA S D' ad A) A) args s 0 0 A) (F0 m 175 ls []) := by
  obtain ⟨hx, hb, -⟩ := id hC
  intro o0 a0 x1 x2 x4 x5 D H locs ls hi0 hw hl h
  unfold f_X9_lookBoth_175 at h
  refine lv_iload hx hb dX9_lookBoth_175 (lv_at hl 4 rfl) ?_
  refine lv_if_eq (tgt := 193) hx hb dX9_lookBoth_177 (by decide) (fun c97 => ?_) (fun c97 => ?_)
  · have h := i_yes c97 h
    refine lv_aload_n hx hb dX9_lookBoth_193 rfl (lv_at hl 0 rfl) ?_
    obtain ⟨o98, ho101, h⟩ := rq_i h
    refine r_getR hC hw kc_8 hi0 5 rfl lk_1077 dX9_lookBoth_194 rfl ho101 (fun a99 hi100 => ?_)
    refine lv_iload_n hx hb dX9_lookBoth_197 rfl (lv_at hl 1 rfl) ?_
    obtain ⟨hn102, h⟩ := ix_i h
    refine r_iald hC hw hi100 hn102 dX9_lookBoth_198 ?_
    refine lv_iconst (v := 1) hx hb dX9_lookBoth_199 (by decide) ?_
    refine lv_iand hx hb dX9_lookBoth_200 ?_
    refine lv_iconst (v := 1) hx hb dX9_lookBoth_201 (by decide) ?_
    refine lv_icmp_ne (tgt := 216) hx hb dX9_lookBoth_202 (by decide) (fun c103 => ?_) (fun c103 => ?_)
    · have h := i_no c103 h
      refine lv_iconst (v := 0) hx hb dX9_lookBoth_216 (by decide) ?_
      cases h
      exact r_iret hC hw dX9_lookBoth_217
    · have h := i_yes c103 h
      refine lv_aload_n hx hb dX9_lookBoth_205 rfl (lv_at hl 0 rfl) ?_
      refine lv_iload hx hb dX9_lookBoth_206 (lv_at hl 3 rfl) ?_
      refine lv_lconst (v := 0) hx hb dX9_lookBoth_208 (by decide) ?_
      refine lv_iload_n hx hb dX9_lookBoth_209 rfl (lv_at hl 2 rfl) ?_
      obtain ⟨r105, hq104, h⟩ := pq_i h
      refine r_cS (st' := [.long r105, .long (0 : Int64), .int x4, .ref a0]) [.int x2] [.long (0 : Int64), .int x4, .ref a0] hC hw (k_X9_mostOf _ hq104) mk_X9_mostOf lk_1574 ⟨Nat.le_trans (by decide) hR.1, Nat.le_trans (by decide) hR.2⟩ ⟨Nat.zero_le _, Nat.zero_le _⟩ rfl hl.1 rfl rfl (Nat.le_of_ble_eq_true rfl) dX9_lookBoth_210 (fun hP H locs hw => ?_)
      obtain ⟨_, D107, hq106, h⟩ := cq_i h
      refine r_cV (st' := []) [.int x4, .long (0 : Int64), .long r105] [] hC hw kc_8 hi0 (k_X9_number _ hi0 hq106) mk_X9_number lk_1496 ⟨Nat.le_trans (by decide) hR.1, Nat.le_trans (by decide) hR.2⟩ ⟨Nat.zero_le _, Nat.zero_le _⟩ rfl hl.1 rfl rfl (Nat.le_of_ble_eq_true rfl) dX9_lookBoth_213 (fun hP H locs hw => ?_)
      refine lv_iconst (v := 0) hx hb dX9_lookBoth_216 (by decide) ?_
      cases h
      exact r_iret hC hw dX9_lookBoth_217
  · have h := i_no c97 h
    refine lv_aload_n hx hb dX9_lookBoth_180 rfl (lv_at hl 0 rfl) ?_
    refine lv_iconst (v := 0) hx hb dX9_lookBoth_181 (by decide) ?_
    refine lv_lconst (v := 0) hx hb dX9_lookBoth_182 (by decide) ?_
    refine lv_iload_n hx hb dX9_lookBoth_183 rfl (lv_at hl 2 rfl) ?_
    obtain ⟨r109, hq108, h⟩ := pq_i h
    refine r_cS (st' := [.long r109, .long (0 : Int64), .int (0 : Int32), .ref a0]) [.int x2] [.long (0 : Int64), .int (0 : Int32), .ref a0] hC hw (k_X9_mostOf _ hq108) mk_X9_mostOf lk_1574 ⟨Nat.le_trans (by decide) hR.1, Nat.le_trans (by decide) hR.2⟩ ⟨Nat.zero_le _, Nat.zero_le _⟩ rfl hl.1 rfl rfl (Nat.le_of_ble_eq_true rfl) dX9_lookBoth_184 (fun hP H locs hw => ?_)
    obtain ⟨_, D111, hq110, h⟩ := cq_i h
    refine r_cV (st' := []) [.int (0 : Int32), .long (0 : Int64), .long r109] [] hC hw kc_8 hi0 (k_X9_number _ hi0 hq110) mk_X9_number lk_1496 ⟨Nat.le_trans (by decide) hR.1, Nat.le_trans (by decide) hR.2⟩ ⟨Nat.zero_le _, Nat.zero_le _⟩ rfl hl.1 rfl rfl (Nat.le_of_ble_eq_true rfl) dX9_lookBoth_187 (fun hP H locs hw => ?_)
    refine lv_goto (tgt := 216) hx hb dX9_lookBoth_190 (by decide) ?_
    refine lv_iconst (v := 0) hx hb dX9_lookBoth_216 (by decide) ?_
    cases h
    exact r_iret hC hw dX9_lookBoth_217
set_option maxHeartbeats 4000000 in
set_option maxRecDepth 100000 in
theorem w_X9_lookBoth_118 {r : Int32} {D' : dt} (hC : Cx RX9 cX9_lookBoth 8 (some .int) p s m args meth c) (hR : 2 ≤ R.frames ∧ 44 ≤ R.locals) : ∀ (o0 a0 : Nat) (x1 : Int32) (x2 : Int32) (x3 : Int32) (x4 : Int32) (x5 : Int32) (x6 : Int32) (D : dt) (H : Heap) (locs : List Loc) (ls : Array Slot), Is S ad o0 a0 8 → Wd G cA S D ad A s H locs → lv_has ls 8 [(0, .ref a0), (1, .int x1), (2, .int x2), (3, .int x3), (4, .int x4), (5, .int x5), (6, .int x6)] → f_X9_lookBoth_118 S o0 x1 x2 x3 x4 x5 x6 D = some (r, D') → W p l e R s m args below meth c H locs 0 0 (MQ below (Qn (some (.int r)) True (wpost G cA S D' ad A) A) args s 0 0 A) (F0 m 118 ls []) := by
  obtain ⟨hx, hb, -⟩ := id hC
  intro o0 a0 x1 x2 x3 x4 x5 x6 D H locs ls hi0 hw hl h
  unfold f_X9_lookBoth_118 at h
  refine lv_iload hx hb dX9_lookBoth_118 (lv_at hl 6 rfl) ?_
  refine lv_if_le (tgt := 126) hx hb dX9_lookBoth_120 (by decide) (fun c112 => ?_) (fun c112 => ?_)
  · have h := i_yes c112 h
    refine lv_aload_n hx hb dX9_lookBoth_126 rfl (lv_at hl 0 rfl) ?_
    obtain ⟨o113, ho116, h⟩ := rq_i h
    refine r_getR hC hw kc_8 hi0 40 rfl lk_1112 dX9_lookBoth_127 rfl ho116 (fun a114 hi115 => ?_)
    refine lv_iload_n hx hb dX9_lookBoth_130 rfl (lv_at hl 3 rfl) ?_
    obtain ⟨hn117, h⟩ := ix_i h
    refine r_iald hC hw hi115 hn117 dX9_lookBoth_131 ?_
    refine lv_iconst (v := 3) hx hb dX9_lookBoth_132 (by decide) ?_
    refine lv_icmp_ne (tgt := 175) hx hb dX9_lookBoth_133 (by decide) (fun c118 => ?_) (fun c118 => ?_)
    · have h := i_no c118 h
      exact w_X9_lookBoth_175 hC hR o0 a0 x1 x2 x4 x5 _ _ _ _ hi0 hw (lv_sub hl [0, 1, 2, 4, 5] rfl) h
    · have h := i_yes c118 h
      refine lv_aload_n hx hb dX9_lookBoth_136 rfl (lv_at hl 0 rfl) ?_
      obtain ⟨o119, ho122, h⟩ := rq_i h
      refine r_getR hC hw kc_8 hi0 41 rfl lk_1113 dX9_lookBoth_137 rfl ho122 (fun a120 hi121 => ?_)
      refine lv_iload_n hx hb dX9_lookBoth_140 rfl (lv_at hl 3 rfl) ?_
      obtain ⟨hn123, h⟩ := ix_i h
      refine r_lald hC hw hi121 hn123 dX9_lookBoth_141 ?_
      refine lv_l2i (v := (gL D o119 x3.toNatClampNeg).toInt32) hx hb dX9_lookBoth_142 rfl ?_
      refine lv_aload_n hx hb dX9_lookBoth_143 rfl (lv_at hl 0 rfl) ?_
      obtain ⟨o124, ho127, h⟩ := rq_i h
      refine r_getR hC hw kc_8 hi0 4 rfl lk_1076 dX9_lookBoth_144 rfl ho127 (fun a125 hi126 => ?_)
      refine lv_iload_n hx hb dX9_lookBoth_147 rfl (lv_at hl 1 rfl) ?_
      obtain ⟨hn128, h⟩ := ix_i h
      refine r_iald hC hw hi126 hn128 dX9_lookBoth_148 ?_
      refine lv_iadd hx hb dX9_lookBoth_149 ?_
      refine lv_sipush (v := 512) hx hb dX9_lookBoth_150 (by decide) ?_
      refine lv_iadd hx hb dX9_lookBoth_153 ?_
      refine lv_topi (fun y129 ey129 => ?_)
      have h := nm_i h y129 ey129
      refine lv_istore (lv' := [(7, .int y129), (0, .ref a0), (1, .int x1), (2, .int x2), (3, .int x3), (4, .int x4), (5, .int x5), (6, .int x6)]) hx hb dX9_lookBoth_154 hl (by decide) rfl (fun ls hl => ?_)
      refine lv_aload_n hx hb dX9_lookBoth_156 rfl (lv_at hl 1 rfl) ?_
      refine lv_iload hx hb dX9_lookBoth_157 (lv_at hl 0 rfl) ?_
      refine lv_iload_n hx hb dX9_lookBoth_159 rfl (lv_at hl 3 rfl) ?_
      obtain ⟨r131, hq130, h⟩ := pq_i h
      refine r_cV (st' := [.int r131]) [.int y129, .int x2] [] hC hw kc_8 hi0 (k_X9_areKnown _ hi0 hq130) mk_X9_areKnown lk_1566 ⟨Nat.le_trans (by decide) hR.1, Nat.le_trans (by decide) hR.2⟩ ⟨Nat.zero_le _, Nat.zero_le _⟩ rfl hl.1 rfl rfl (Nat.le_of_ble_eq_true rfl) dX9_lookBoth_160 (fun hP H locs hw => ?_)
      refine lv_if_ne (tgt := 168) hx hb dX9_lookBoth_163 (by decide) (fun c132 => ?_) (fun c132 => ?_)
      · have h := i_no c132 h
        refine lv_aload_n hx hb dX9_lookBoth_168 rfl (lv_at hl 1 rfl) ?_
        refine lv_iload hx hb dX9_lookBoth_169 (lv_at hl 0 rfl) ?_
        refine lv_iload_n hx hb dX9_lookBoth_171 rfl (lv_at hl 3 rfl) ?_
        obtain ⟨_, D134, hq133, h⟩ := cq_i h
        refine r_cV (st' := []) [.int y129, .int x2] [] hC hw kc_8 hi0 (k_X9_put_ _ hi0 hq133) mk_X9_put_ lk_1583 ⟨Nat.le_trans (by decide) hR.1, Nat.le_trans (by decide) hR.2⟩ ⟨Nat.zero_le _, Nat.zero_le _⟩ rfl hl.1 rfl rfl (Nat.le_of_ble_eq_true rfl) dX9_lookBoth_172 (fun hP H locs hw => ?_)
        exact w_X9_lookBoth_175 hC hR o0 a0 x1 x2 x4 x5 _ _ _ _ hi0 hw (lv_sub hl [1, 2, 3, 5, 6] rfl) h
      · have h := i_yes c132 h
        refine lv_iconst (v := 4) hx hb dX9_lookBoth_166 (by decide) ?_
        cases h
        exact r_iret hC hw dX9_lookBoth_167
  · have h := i_no c112 h
    refine lv_iload hx hb dX9_lookBoth_123 (lv_at hl 6 rfl) ?_
    cases h
    exact r_iret hC hw dX9_lookBoth_125
set_option maxHeartbeats 4000000 in
set_option maxRecDepth 100000 in
theorem w_X9_lookBoth_69 {r : Int32} {D' : dt} (hC : Cx RX9 cX9_lookBoth 8 (some .int) p s m args meth c) (hR : 2 ≤ R.frames ∧ 44 ≤ R.locals) : ∀ (o0 a0 : Nat) (x1 : Int32) (x2 : Int32) (x3 : Int32) (x4 : Int32) (x5 : Int32) (D : dt) (H : Heap) (locs : List Loc) (ls : Array Slot), Is S ad o0 a0 8 → Wd G cA S D ad A s H locs → lv_has ls 8 [(0, .ref a0), (1, .int x1), (2, .int x2), (3, .int x3), (4, .int x4), (5, .int x5)] → f_X9_lookBoth_69 S o0 x1 x2 x3 x4 x5 D = some (r, D') → W p l e R s m args below meth c H locs 0 0 (MQ below (Qn (some (.int r)) True (wpost G cA S D' ad A) A) args s 0 0 A) (F0 m 69 ls []) := by
  obtain ⟨hx, hb, -⟩ := id hC
  intro o0 a0 x1 x2 x3 x4 x5 D H locs ls hi0 hw hl h
  unfold f_X9_lookBoth_69 at h
  refine lv_aload_n hx hb dX9_lookBoth_69 rfl (lv_at hl 0 rfl) ?_
  refine lv_iload_n hx hb dX9_lookBoth_70 rfl (lv_at hl 3 rfl) ?_
  refine lv_aload_n hx hb dX9_lookBoth_71 rfl (lv_at hl 0 rfl) ?_
  obtain ⟨o135, ho138, h⟩ := rq_i h
  refine r_getR hC hw kc_8 hi0 4 rfl lk_1076 dX9_lookBoth_72 rfl ho138 (fun a136 hi137 => ?_)
  refine lv_iload_n hx hb dX9_lookBoth_75 rfl (lv_at hl 1 rfl) ?_
  obtain ⟨hn139, h⟩ := ix_i h
  refine r_iald hC hw hi137 hn139 dX9_lookBoth_76 ?_
  refine lv_iload_n hx hb dX9_lookBoth_77 rfl (lv_at hl 2 rfl) ?_
  refine lv_iconst (v := 1) hx hb dX9_lookBoth_78 (by decide) ?_
  obtain ⟨r141, hq140, h⟩ := pq_i h
  refine r_cV (st' := [.int r141]) [.int x3, .int (gI D o135 x1.toNatClampNeg), .int x2, .int (1 : Int32)] [] hC hw kc_8 hi0 (k_X9_access _ hi0 hq140) mk_X9_access lk_1561 ⟨Nat.le_trans (by decide) hR.1, Nat.le_trans (by decide) hR.2⟩ ⟨Nat.zero_le _, Nat.zero_le _⟩ rfl hl.1 rfl rfl (Nat.le_of_ble_eq_true rfl) dX9_lookBoth_79 (fun hP H locs hw => ?_)
  refine lv_istore (lv' := [(6, .int r141), (0, .ref a0), (1, .int x1), (2, .int x2), (3, .int x3), (4, .int x4), (5, .int x5)]) hx hb dX9_lookBoth_82 hl (by decide) rfl (fun ls hl => ?_)
  refine lv_iload hx hb dX9_lookBoth_84 (lv_at hl 0 rfl) ?_
  refine lv_iconst (v := 3) hx hb dX9_lookBoth_86 (by decide) ?_
  refine lv_icmp_eq (tgt := 116) hx hb dX9_lookBoth_87 (by decide) (fun c142 => ?_) (fun c142 => ?_)
  · have h := i_yes c142 h
    refine lv_iconst (v := 3) hx hb dX9_lookBoth_116 (by decide) ?_
    cases h
    exact r_iret hC hw dX9_lookBoth_117
  · have h := i_no c142 h
    refine lv_aload_n hx hb dX9_lookBoth_90 rfl (lv_at hl 1 rfl) ?_
    obtain ⟨o143, ho146, h⟩ := rq_i h
    refine r_getR hC hw kc_8 hi0 40 rfl lk_1112 dX9_lookBoth_91 rfl ho146 (fun a144 hi145 => ?_)
    refine lv_iload hx hb dX9_lookBoth_94 (lv_at hl 5 rfl) ?_
    obtain ⟨hn147, h⟩ := ix_i h
    refine r_iald hC hw hi145 hn147 dX9_lookBoth_96 ?_
    refine lv_iconst (v := 1) hx hb dX9_lookBoth_97 (by decide) ?_
    refine lv_icmp_ne (tgt := 116) hx hb dX9_lookBoth_98 (by decide) (fun c148 => ?_) (fun c148 => ?_)
    · have h := i_no c148 h
      refine lv_iconst (v := 3) hx hb dX9_lookBoth_116 (by decide) ?_
      cases h
      exact r_iret hC hw dX9_lookBoth_117
    · have h := i_yes c148 h
      refine lv_iload hx hb dX9_lookBoth_101 (lv_at hl 6 rfl) ?_
      refine lv_if_eq (tgt := 118) hx hb dX9_lookBoth_103 (by decide) (fun c149 => ?_) (fun c149 => ?_)
      · have h := i_yes c149 h
        exact w_X9_lookBoth_118 hC hR o0 a0 x1 x2 x3 x4 x5 r141 _ _ _ _ hi0 hw (lv_sub hl [1, 2, 3, 4, 5, 6, 0] rfl) h
      · have h := i_no c149 h
        refine lv_aload_n hx hb dX9_lookBoth_106 rfl (lv_at hl 1 rfl) ?_
        obtain ⟨o150, ho153, h⟩ := rq_i h
        refine r_getR hC hw kc_8 hi0 40 rfl lk_1112 dX9_lookBoth_107 rfl ho153 (fun a151 hi152 => ?_)
        refine lv_iconst (v := 0) hx hb dX9_lookBoth_110 (by decide) ?_
        obtain ⟨hn154, h⟩ := ix_i h
        refine r_iald hC hw hi152 hn154 dX9_lookBoth_111 ?_
        refine lv_iconst (v := 1) hx hb dX9_lookBoth_112 (by decide) ?_
        refine lv_icmp_eq (tgt := 118) hx hb dX9_lookBoth_113 (by decide) (fun c155 => ?_) (fun c155 => ?_)
        · have h := i_yes c155 h
          exact w_X9_lookBoth_118 hC hR o0 a0 x1 x2 x3 x4 x5 r141 _ _ _ _ hi0 hw (lv_sub hl [1, 2, 3, 4, 5, 6, 0] rfl) h
        · have h := i_no c155 h
          refine lv_iconst (v := 3) hx hb dX9_lookBoth_116 (by decide) ?_
          cases h
          exact r_iret hC hw dX9_lookBoth_117
set_option maxHeartbeats 4000000 in
set_option maxRecDepth 100000 in
theorem w_X9_lookBoth_32 {r : Int32} {D' : dt} (hC : Cx RX9 cX9_lookBoth 8 (some .int) p s m args meth c) (hR : 2 ≤ R.frames ∧ 44 ≤ R.locals) : ∀ (o0 a0 : Nat) (x1 : Int32) (x2 : Int32) (x3 : Int32) (x4 : Int32) (xs0 : Int32) (D : dt) (H : Heap) (locs : List Loc) (ls : Array Slot), Is S ad o0 a0 8 → Wd G cA S D ad A s H locs → lv_has ls 8 [(0, .ref a0), (1, .int x1), (2, .int x2), (3, .int x3), (4, .int x4)] → f_X9_lookBoth_32 S o0 x1 x2 x3 x4 xs0 D = some (r, D') → W p l e R s m args below meth c H locs 0 0 (MQ below (Qn (some (.int r)) True (wpost G cA S D' ad A) A) args s 0 0 A) (F0 m 32 ls [.int xs0]) := by
  obtain ⟨hx, hb, -⟩ := id hC
  intro o0 a0 x1 x2 x3 x4 xs0 D H locs ls hi0 hw hl h
  unfold f_X9_lookBoth_32 at h
  refine lv_istore (lv' := [(5, .int xs0), (0, .ref a0), (1, .int x1), (2, .int x2), (3, .int x3), (4, .int x4)]) hx hb dX9_lookBoth_32 hl (by decide) rfl (fun ls hl => ?_)
  refine lv_aload_n hx hb dX9_lookBoth_34 rfl (lv_at hl 1 rfl) ?_
  obtain ⟨o156, ho159, h⟩ := rq_i h
  refine r_getR hC hw kc_8 hi0 40 rfl lk_1112 dX9_lookBoth_35 rfl ho159 (fun a157 hi158 => ?_)
  refine lv_iload_n hx hb dX9_lookBoth_38 rfl (lv_at hl 4 rfl) ?_
  obtain ⟨hn160, h⟩ := ix_i h
  refine r_iald hC hw hi158 hn160 dX9_lookBoth_39 ?_
  refine lv_if_eq (tgt := 67) hx hb dX9_lookBoth_40 (by decide) (fun c161 => ?_) (fun c161 => ?_)
  · have h := i_yes c161 h
    refine lv_iconst (v := 2) hx hb dX9_lookBoth_67 (by decide) ?_
    cases h
    exact r_iret hC hw dX9_lookBoth_68
  · have h := i_no c161 h
    refine lv_aload_n hx hb dX9_lookBoth_43 rfl (lv_at hl 1 rfl) ?_
    obtain ⟨o162, ho165, h⟩ := rq_i h
    refine r_getR hC hw kc_8 hi0 40 rfl lk_1112 dX9_lookBoth_44 rfl ho165 (fun a163 hi164 => ?_)
    refine lv_iload hx hb dX9_lookBoth_47 (lv_at hl 5 rfl) ?_
    obtain ⟨hn166, h⟩ := ix_i h
    refine r_iald hC hw hi164 hn166 dX9_lookBoth_49 ?_
    refine lv_if_eq (tgt := 67) hx hb dX9_lookBoth_50 (by decide) (fun c167 => ?_) (fun c167 => ?_)
    · have h := i_yes c167 h
      refine lv_iconst (v := 2) hx hb dX9_lookBoth_67 (by decide) ?_
      cases h
      exact r_iret hC hw dX9_lookBoth_68
    · have h := i_no c167 h
      refine lv_iload hx hb dX9_lookBoth_53 (lv_at hl 0 rfl) ?_
      refine lv_if_eq (tgt := 69) hx hb dX9_lookBoth_55 (by decide) (fun c168 => ?_) (fun c168 => ?_)
      · have h := i_yes c168 h
        exact w_X9_lookBoth_69 hC hR o0 a0 x1 x2 x3 x4 xs0 _ _ _ _ hi0 hw (lv_sub hl [1, 2, 3, 4, 5, 0] rfl) h
      · have h := i_no c168 h
        refine lv_aload_n hx hb dX9_lookBoth_58 rfl (lv_at hl 1 rfl) ?_
        obtain ⟨o169, ho172, h⟩ := rq_i h
        refine r_getR hC hw kc_8 hi0 40 rfl lk_1112 dX9_lookBoth_59 rfl ho172 (fun a170 hi171 => ?_)
        refine lv_iconst (v := 0) hx hb dX9_lookBoth_62 (by decide) ?_
        obtain ⟨hn173, h⟩ := ix_i h
        refine r_iald hC hw hi171 hn173 dX9_lookBoth_63 ?_
        refine lv_if_ne (tgt := 69) hx hb dX9_lookBoth_64 (by decide) (fun c174 => ?_) (fun c174 => ?_)
        · have h := i_no c174 h
          exact w_X9_lookBoth_69 hC hR o0 a0 x1 x2 x3 x4 xs0 _ _ _ _ hi0 hw (lv_sub hl [1, 2, 3, 4, 5, 0] rfl) h
        · have h := i_yes c174 h
          refine lv_iconst (v := 2) hx hb dX9_lookBoth_67 (by decide) ?_
          cases h
          exact r_iret hC hw dX9_lookBoth_68
set_option maxHeartbeats 4000000 in
set_option maxRecDepth 100000 in
theorem w_X9_lookBoth_0 {r : Int32} {D' : dt} (hC : Cx RX9 cX9_lookBoth 8 (some .int) p s m args meth c) (hR : 2 ≤ R.frames ∧ 44 ≤ R.locals) : ∀ (o0 a0 : Nat) (x1 : Int32) (x2 : Int32) (D : dt) (H : Heap) (locs : List Loc) (ls : Array Slot), Is S ad o0 a0 8 → Wd G cA S D ad A s H locs → lv_has ls 8 [(0, .ref a0), (1, .int x1), (2, .int x2)] → f_X9_lookBoth S o0 x1 x2 D = some (r, D') → W p l e R s m args below meth c H locs 0 0 (MQ below (Qn (some (.int r)) True (wpost G cA S D' ad A) A) args s 0 0 A) (F0 m 0 ls []) := by
  obtain ⟨hx, hb, -⟩ := id hC
  intro o0 a0 x1 x2 D H locs ls hi0 hw hl h
  unfold f_X9_lookBoth at h
  refine lv_aload_n hx hb dX9_lookBoth_0 rfl (lv_at hl 0 rfl) ?_
  obtain ⟨o175, ho178, h⟩ := rq_i h
  refine r_getR hC hw kc_8 hi0 2 rfl lk_1074 dX9_lookBoth_1 rfl ho178 (fun a176 hi177 => ?_)
  refine lv_iload_n hx hb dX9_lookBoth_4 rfl (lv_at hl 1 rfl) ?_
  obtain ⟨hn179, h⟩ := ix_i h
  refine r_iald hC hw hi177 hn179 dX9_lookBoth_5 ?_
  refine lv_topi (fun y180 ey180 => ?_)
  have h := nm_i h y180 ey180
  refine lv_istore_n (lv' := [(3, .int y180), (0, .ref a0), (1, .int x1), (2, .int x2)]) hx hb dX9_lookBoth_6 rfl hl (by decide) rfl (fun ls hl => ?_)
  refine lv_aload_n hx hb dX9_lookBoth_7 rfl (lv_at hl 1 rfl) ?_
  obtain ⟨o181, ho184, h⟩ := rq_i h
  refine r_getR hC hw kc_8 hi0 3 rfl lk_1075 dX9_lookBoth_8 rfl ho184 (fun a182 hi183 => ?_)
  refine lv_iload_n hx hb dX9_lookBoth_11 rfl (lv_at hl 2 rfl) ?_
  obtain ⟨hn185, h⟩ := ix_i h
  refine r_iald hC hw hi183 hn185 dX9_lookBoth_12 ?_
  refine lv_topi (fun y186 ey186 => ?_)
  have h := nm_i h y186 ey186
  refine lv_istore (lv' := [(4, .int y186), (3, .int y180), (0, .ref a0), (1, .int x1), (2, .int x2)]) hx hb dX9_lookBoth_13 hl (by decide) rfl (fun ls hl => ?_)
  refine lv_aload_n hx hb dX9_lookBoth_15 rfl (lv_at hl 2 rfl) ?_
  obtain ⟨o187, ho190, h⟩ := rq_i h
  refine r_getR hC hw kc_8 hi0 5 rfl lk_1077 dX9_lookBoth_16 rfl ho190 (fun a188 hi189 => ?_)
  refine lv_iload_n hx hb dX9_lookBoth_19 rfl (lv_at hl 3 rfl) ?_
  obtain ⟨hn191, h⟩ := ix_i h
  refine r_iald hC hw hi189 hn191 dX9_lookBoth_20 ?_
  refine lv_sipush (v := 241) hx hb dX9_lookBoth_21 (by decide) ?_
  refine lv_icmp_ne (tgt := 31) hx hb dX9_lookBoth_24 (by decide) (fun c192 => ?_) (fun c192 => ?_)
  · have h := i_no c192 h
    refine lv_iconst (v := 0) hx hb dX9_lookBoth_31 (by decide) ?_
    exact w_X9_lookBoth_32 hC hR o0 a0 x1 x2 y180 y186 (0 : Int32) _ _ _ _ hi0 hw (lv_sub hl [2, 3, 4, 1, 0] rfl) h
  · have h := i_yes c192 h
    refine lv_iconst (v := 1) hx hb dX9_lookBoth_27 (by decide) ?_
    refine lv_goto (tgt := 32) hx hb dX9_lookBoth_28 (by decide) ?_
    exact w_X9_lookBoth_32 hC hR o0 a0 x1 x2 y180 y186 (1 : Int32) _ _ _ _ hi0 hw (lv_sub hl [2, 3, 4, 1, 0] rfl) h
set_option maxHeartbeats 4000000 in
set_option maxRecDepth 100000 in
theorem k_X9_lookBoth {l : Launch} {G : va_G} {cA : Nat → ClassId} {S : sh} {D D' : dt} {ad : Nat → Nat} (sz : Nat) {o0 a0 : Nat} {x1 : Int32} {x2 : Int32} {r : Int32} (hi0 : Is S ad o0 a0 8) (h : f_X9_lookBoth S o0 x1 x2 D = some (r, D')) : Co l yX9_lookBoth (Cond.code yX9_lookBoth cX9_lookBoth 8 (some .int) :: tb0) 2 44 [.ref a0, .int x1, .int x2] G cA S D ad sz (some (.int r)) True D' := by
  refine Met.ofW (cc := cX9_lookBoth) (maxL := 8) (ret := (some .int)) (by decide) rfl ?_
  intro p e s m args below meth c s₁ B hml hv
  obtain ⟨rfl, hsz, hP, hK, hD0, hT, hX⟩ := hv
  subst hsz
  have hts := atoms_spec (ws := Cond.code yX9_lookBoth cX9_lookBoth 8 (some .int) :: tb0) B.pre
  have hC : Cx RX9 cX9_lookBoth 8 (some .int) p s m _ meth c := ⟨B.exec, B.bytes, hml, findClass_of_methodNamed B.named, fun w q => hts w (List.mem_cons_of_mem _ q), B.returns, B.notSynchronized⟩
  have hw := Wd.entry hP hK hD0 hT hX
  have hl := lv_entry ([.ref a0, .int x1, .int x2]) (n := 8) (Nat.le_of_ble_eq_true rfl)
  rw [lg_entry_eq]
  exact w_X9_lookBoth_0 hC ⟨Nat.le_refl _, Nat.le_refl _⟩ o0 a0 x1 x2 D _ _ _ hi0 hw hl h
set_option maxHeartbeats 4000000 in
set_option maxRecDepth 100000 in
theorem w_X9_lookWide_161 {r : Int32} {D' : dt} (hC : Cx RX9 cX9_lookWide 5 (some .int) p s m args meth c) (hR : 5 ≤ R.frames ∧ 121 ≤ R.locals) : ∀ (o0 a0 : Nat) (x1 : Int32) (D : dt) (H : Heap) (locs : List Loc) (ls : Array Slot), Is S ad o0 a0 8 → Wd G cA S D ad A s H locs → lv_has ls 5 [(0, .ref a0), (1, .int x1)] → f_X9_lookWide_161 S o0 x1 D = some (r, D') → W p l e R s m args below meth c H locs 0 0 (MQ below (Qn (some (.int r)) True (wpost G cA S D' ad A) A) args s 0 0 A) (F0 m 161 ls []) := by
  obtain ⟨hx, hb, -⟩ := id hC
  intro o0 a0 x1 D H locs ls hi0 hw hl h
  unfold f_X9_lookWide_161 at h
  refine lv_aload_n hx hb dX9_lookWide_161 rfl (lv_at hl 0 rfl) ?_
  refine lv_iconst (v := 0) hx hb dX9_lookWide_162 (by decide) ?_
  refine lv_iload_n hx hb dX9_lookWide_163 rfl (lv_at hl 1 rfl) ?_
  refine lv_iconst (v := 2) hx hb dX9_lookWide_164 (by decide) ?_
  refine lv_iadd hx hb dX9_lookWide_165 ?_
  obtain ⟨r83, D84, hq82, h⟩ := cq_i h
  refine r_cV (st' := [.int r83]) [.int (0 : Int32), .int (x1 + (2 : Int32))] [] hC hw kc_8 hi0 (k_X9_onward _ hi0 hq82) mk_X9_onward lk_1519 ⟨Nat.le_trans (by decide) hR.1, Nat.le_trans (by decide) hR.2⟩ ⟨Nat.zero_le _, Nat.zero_le _⟩ rfl hl.1 rfl rfl (Nat.le_of_ble_eq_true rfl) dX9_lookWide_166 (fun hP H locs hw => ?_)
  cases h
  exact r_iret hC hw dX9_lookWide_169
set_option maxHeartbeats 4000000 in
set_option maxRecDepth 100000 in
theorem w_X9_lookWide_65 {r : Int32} {D' : dt} (hC : Cx RX9 cX9_lookWide 5 (some .int) p s m args meth c) (hR : 5 ≤ R.frames ∧ 121 ≤ R.locals) : ∀ (o0 a0 : Nat) (x1 : Int32) (x2 : Int32) (D : dt) (H : Heap) (locs : List Loc) (ls : Array Slot), Is S ad o0 a0 8 → Wd G cA S D ad A s H locs → lv_has ls 5 [(0, .ref a0), (1, .int x1), (2, .int x2)] → f_X9_lookWide_65 S o0 x1 x2 D = some (r, D') → W p l e R s m args below meth c H locs 0 0 (MQ below (Qn (some (.int r)) True (wpost G cA S D' ad A) A) args s 0 0 A) (F0 m 65 ls []) := by
  obtain ⟨hx, hb, -⟩ := id hC
  intro o0 a0 x1 x2 D H locs ls hi0 hw hl h
  unfold f_X9_lookWide_65 at h
  refine lv_iload_n hx hb dX9_lookWide_65 rfl (lv_at hl 2 rfl) ?_
  refine lv_if_ne (tgt := 72) hx hb dX9_lookWide_66 (by decide) (fun c85 => ?_) (fun c85 => ?_)
  · have h := i_no c85 h
    refine lv_aload_n hx hb dX9_lookWide_72 rfl (lv_at hl 0 rfl) ?_
    obtain ⟨o86, ho89, h⟩ := rq_i h
    refine r_getR hC hw kc_8 hi0 3 rfl lk_1075 dX9_lookWide_73 rfl ho89 (fun a87 hi88 => ?_)
    refine lv_iload_n hx hb dX9_lookWide_76 rfl (lv_at hl 1 rfl) ?_
    obtain ⟨hn90, h⟩ := ix_i h
    refine r_iald hC hw hi88 hn90 dX9_lookWide_77 ?_
    refine lv_iconst (v := 1) hx hb dX9_lookWide_78 (by decide) ?_
    refine lv_icmp_ne (tgt := 124) hx hb dX9_lookWide_79 (by decide) (fun c91 => ?_) (fun c91 => ?_)
    · have h := i_no c91 h
      refine lv_aload_n hx hb dX9_lookWide_124 rfl (lv_at hl 0 rfl) ?_
      obtain ⟨o92, ho95, h⟩ := rq_i h
      refine r_getR hC hw kc_8 hi0 5 rfl lk_1077 dX9_lookWide_125 rfl ho95 (fun a93 hi94 => ?_)
      refine lv_iload_n hx hb dX9_lookWide_128 rfl (lv_at hl 1 rfl) ?_
      obtain ⟨hn96, h⟩ := ix_i h
      refine r_iald hC hw hi94 hn96 dX9_lookWide_129 ?_
      refine lv_i2l (v := (gI D o92 x1.toNatClampNeg).toInt64) hx hb dX9_lookWide_130 rfl ?_
      refine lv_ldc2 (v := 4294967295) hx hb hC.2.2.2.1 (hC.2.2.2.2.1 _ lk_1347) dX9_lookWide_131 ?_
      refine lv_land hx hb dX9_lookWide_134 ?_
      refine lv_aload_n hx hb dX9_lookWide_135 rfl (lv_at hl 0 rfl) ?_
      obtain ⟨o97, ho100, h⟩ := rq_i h
      refine r_getR hC hw kc_8 hi0 5 rfl lk_1077 dX9_lookWide_136 rfl ho100 (fun a98 hi99 => ?_)
      refine lv_iload_n hx hb dX9_lookWide_139 rfl (lv_at hl 1 rfl) ?_
      refine lv_iconst (v := 1) hx hb dX9_lookWide_140 (by decide) ?_
      refine lv_iadd hx hb dX9_lookWide_141 ?_
      obtain ⟨hn101, h⟩ := ix_i h
      refine r_iald hC hw hi99 hn101 dX9_lookWide_142 ?_
      refine lv_i2l (v := (gI D o97 (x1 + (1 : Int32)).toNatClampNeg).toInt64) hx hb dX9_lookWide_143 rfl ?_
      refine lv_bipush (v := 32) hx hb dX9_lookWide_144 (by decide) ?_
      refine lv_lshl (v := j_lshl ((gI D o97 (x1 + (1 : Int32)).toNatClampNeg).toInt64) (32 : Int32)) hx hb dX9_lookWide_146 rfl ?_
      refine lv_lor hx hb dX9_lookWide_147 ?_
      refine lv_topl (fun y102 ey102 => ?_)
      have h := nm_i h y102 ey102
      refine lv_lstore_n (lv' := [(3, .long y102), (0, .ref a0), (1, .int x1), (2, .int x2)]) hx hb dX9_lookWide_148 rfl hl (by decide) rfl (fun ls hl => ?_)
      refine lv_aload_n hx hb dX9_lookWide_149 rfl (lv_at hl 1 rfl) ?_
      refine lv_aload_n hx hb dX9_lookWide_150 rfl (lv_at hl 1 rfl) ?_
      obtain ⟨o103, ho106, h⟩ := rq_i h
      refine r_getR hC hw kc_8 hi0 2 rfl lk_1074 dX9_lookWide_151 rfl ho106 (fun a104 hi105 => ?_)
      refine lv_iload_n hx hb dX9_lookWide_154 rfl (lv_at hl 2 rfl) ?_
      obtain ⟨hn107, h⟩ := ix_i h
      refine r_iald hC hw hi105 hn107 dX9_lookWide_155 ?_
      refine lv_lload_n hx hb dX9_lookWide_156 rfl (lv_at hl 0 rfl) ?_
      refine lv_lload_n hx hb dX9_lookWide_157 rfl (lv_at hl 0 rfl) ?_
      obtain ⟨_, D109, hq108, h⟩ := cq_i h
      refine r_cV (st' := []) [.int (gI D o103 x1.toNatClampNeg), .long y102, .long y102] [] hC hw kc_8 hi0 (k_X9_number _ hi0 hq108) mk_X9_number lk_1496 ⟨Nat.le_trans (by decide) hR.1, Nat.le_trans (by decide) hR.2⟩ ⟨Nat.zero_le _, Nat.zero_le _⟩ rfl hl.1 rfl rfl (Nat.le_of_ble_eq_true rfl) dX9_lookWide_158 (fun hP H locs hw => ?_)
      exact w_X9_lookWide_161 hC hR o0 a0 x1 _ _ _ _ hi0 hw (lv_sub hl [1, 2] rfl) h
    · have h := i_yes c91 h
      refine lv_aload_n hx hb dX9_lookWide_82 rfl (lv_at hl 0 rfl) ?_
      refine lv_aload_n hx hb dX9_lookWide_83 rfl (lv_at hl 0 rfl) ?_
      obtain ⟨o110, ho113, h⟩ := rq_i h
      refine r_getR hC hw kc_8 hi0 2 rfl lk_1074 dX9_lookWide_84 rfl ho113 (fun a111 hi112 => ?_)
      refine lv_iload_n hx hb dX9_lookWide_87 rfl (lv_at hl 1 rfl) ?_
      obtain ⟨hn114, h⟩ := ix_i h
      refine r_iald hC hw hi112 hn114 dX9_lookWide_88 ?_
      obtain ⟨_, D116, hq115, h⟩ := cq_i h
      refine r_cV (st' := []) [.int (gI D o110 x1.toNatClampNeg)] [] hC hw kc_8 hi0 (k_X9_forget _ hi0 hq115) mk_X9_forget lk_1454 ⟨Nat.le_trans (by decide) hR.1, Nat.le_trans (by decide) hR.2⟩ ⟨Nat.zero_le _, Nat.zero_le _⟩ rfl hl.1 rfl rfl (Nat.le_of_ble_eq_true rfl) dX9_lookWide_89 (fun hP H locs hw => ?_)
      refine lv_aload_n hx hb dX9_lookWide_92 rfl (lv_at hl 0 rfl) ?_
      obtain ⟨o117, ho120, h⟩ := rq_i h
      refine r_getR hC hw kc_8 hi0 40 rfl lk_1112 dX9_lookWide_93 rfl ho120 (fun a118 hi119 => ?_)
      refine lv_aload_n hx hb dX9_lookWide_96 rfl (lv_at hl 0 rfl) ?_
      obtain ⟨o121, ho124, h⟩ := rq_i h
      refine r_getR hC hw kc_8 hi0 2 rfl lk_1074 dX9_lookWide_97 rfl ho124 (fun a122 hi123 => ?_)
      refine lv_iload_n hx hb dX9_lookWide_100 rfl (lv_at hl 1 rfl) ?_
      obtain ⟨hn125, h⟩ := ix_i h
      refine r_iald hC hw hi123 hn125 dX9_lookWide_101 ?_
      refine lv_iconst (v := 4) hx hb dX9_lookWide_102 (by decide) ?_
      obtain ⟨hn126, h⟩ := ix_i h
      refine r_ias hC hw hi119 hn126 dX9_lookWide_103 (fun D127 eD127 H locs hw => ?_)
      have h := nm_i h D127 eD127
      refine lv_aload_n hx hb dX9_lookWide_104 rfl (lv_at hl 0 rfl) ?_
      obtain ⟨o128, ho131, h⟩ := rq_i h
      refine r_getR hC hw kc_8 hi0 43 rfl lk_1115 dX9_lookWide_105 rfl ho131 (fun a129 hi130 => ?_)
      refine lv_aload_n hx hb dX9_lookWide_108 rfl (lv_at hl 0 rfl) ?_
      obtain ⟨o132, ho135, h⟩ := rq_i h
      refine r_getR hC hw kc_8 hi0 2 rfl lk_1074 dX9_lookWide_109 rfl ho135 (fun a133 hi134 => ?_)
      refine lv_iload_n hx hb dX9_lookWide_112 rfl (lv_at hl 1 rfl) ?_
      obtain ⟨hn136, h⟩ := ix_i h
      refine r_iald hC hw hi134 hn136 dX9_lookWide_113 ?_
      refine lv_aload_n hx hb dX9_lookWide_114 rfl (lv_at hl 0 rfl) ?_
      obtain ⟨o137, ho140, h⟩ := rq_i h
      refine r_getR hC hw kc_8 hi0 5 rfl lk_1077 dX9_lookWide_115 rfl ho140 (fun a138 hi139 => ?_)
      refine lv_iload_n hx hb dX9_lookWide_118 rfl (lv_at hl 1 rfl) ?_
      obtain ⟨hn141, h⟩ := ix_i h
      refine r_iald hC hw hi139 hn141 dX9_lookWide_119 ?_
      obtain ⟨hn142, h⟩ := ix_i h
      refine r_ias hC hw hi130 hn142 dX9_lookWide_120 (fun D143 eD143 H locs hw => ?_)
      have h := nm_i h D143 eD143
      refine lv_goto (tgt := 161) hx hb dX9_lookWide_121 (by decide) ?_
      exact w_X9_lookWide_161 hC hR o0 a0 x1 _ _ _ _ hi0 hw (lv_sub hl [0, 1] rfl) h
  · have h := i_yes c85 h
    refine lv_bipush (v := 6) hx hb dX9_lookWide_69 (by decide) ?_
    cases h
    exact r_iret hC hw dX9_lookWide_71
set_option maxHeartbeats 4000000 in
set_option maxRecDepth 100000 in
theorem w_X9_lookWide_32 {r : Int32} {D' : dt} (hC : Cx RX9 cX9_lookWide 5 (some .int) p s m args meth c) (hR : 5 ≤ R.frames ∧ 121 ≤ R.locals) : ∀ (o0 a0 : Nat) (x1 : Int32) (x2 : Int32) (D : dt) (H : Heap) (locs : List Loc) (ls : Array Slot), Is S ad o0 a0 8 → Wd G cA S D ad A s H locs → lv_has ls 5 [(0, .ref a0), (1, .int x1), (2, .int x2)] → f_X9_lookWide_32 S o0 x1 x2 D = some (r, D') → W p l e R s m args below meth c H locs 0 0 (MQ below (Qn (some (.int r)) True (wpost G cA S D' ad A) A) args s 0 0 A) (F0 m 32 ls []) := by
  obtain ⟨hx, hb, -⟩ := id hC
  intro o0 a0 x1 x2 D H locs ls hi0 hw hl h
  unfold f_X9_lookWide_32 at h
  refine lv_aload_n hx hb dX9_lookWide_32 rfl (lv_at hl 0 rfl) ?_
  obtain ⟨o144, ho147, h⟩ := rq_i h
  refine r_getR hC hw kc_8 hi0 3 rfl lk_1075 dX9_lookWide_33 rfl ho147 (fun a145 hi146 => ?_)
  refine lv_iload_n hx hb dX9_lookWide_36 rfl (lv_at hl 1 rfl) ?_
  obtain ⟨hn148, h⟩ := ix_i h
  refine r_iald hC hw hi146 hn148 dX9_lookWide_37 ?_
  refine lv_iconst (v := 1) hx hb dX9_lookWide_38 (by decide) ?_
  refine lv_icmp_ne (tgt := 65) hx hb dX9_lookWide_39 (by decide) (fun c149 => ?_) (fun c149 => ?_)
  · have h := i_no c149 h
    exact w_X9_lookWide_65 hC hR o0 a0 x1 x2 _ _ _ _ hi0 hw (lv_sub hl [0, 1, 2] rfl) h
  · have h := i_yes c149 h
    refine lv_aload_n hx hb dX9_lookWide_42 rfl (lv_at hl 0 rfl) ?_
    obtain ⟨o150, ho153, h⟩ := rq_i h
    refine r_getR hC hw kc_8 hi0 5 rfl lk_1077 dX9_lookWide_43 rfl ho153 (fun a151 hi152 => ?_)
    refine lv_iload_n hx hb dX9_lookWide_46 rfl (lv_at hl 1 rfl) ?_
    obtain ⟨hn154, h⟩ := ix_i h
    refine r_iald hC hw hi152 hn154 dX9_lookWide_47 ?_
    refine lv_i2l (v := (gI D o150 x1.toNatClampNeg).toInt64) hx hb dX9_lookWide_48 rfl ?_
    refine lv_lconst (v := 0) hx hb dX9_lookWide_49 (by decide) ?_
    refine lv_aload_n hx hb dX9_lookWide_50 rfl (lv_at hl 0 rfl) ?_
    refine r_gI hC hw kc_8 hi0 9 rfl lk_1081 dX9_lookWide_51 ?_
    refine lv_iconst (v := 1) hx hb dX9_lookWide_54 (by decide) ?_
    refine lv_isub hx hb dX9_lookWide_55 ?_
    refine lv_i2l (v := ((gI D o0 9) - (1 : Int32)).toInt64) hx hb dX9_lookWide_56 rfl ?_
    obtain ⟨r156, hq155, h⟩ := pq_i h
    refine r_cS (st' := [.int r156]) [.long ((gI D o150 x1.toNatClampNeg).toInt64), .long (0 : Int64), .long (((gI D o0 9) - (1 : Int32)).toInt64)] [] hC hw (k_X9_in _ hq155) mk_X9_in lk_1243 ⟨Nat.le_trans (by decide) hR.1, Nat.le_trans (by decide) hR.2⟩ ⟨Nat.zero_le _, Nat.zero_le _⟩ rfl hl.1 rfl rfl (Nat.le_of_ble_eq_true rfl) dX9_lookWide_57 (fun hP H locs hw => ?_)
    refine lv_if_ne (tgt := 65) hx hb dX9_lookWide_60 (by decide) (fun c157 => ?_) (fun c157 => ?_)
    · have h := i_no c157 h
      exact w_X9_lookWide_65 hC hR o0 a0 x1 x2 _ _ _ _ hi0 hw (lv_sub hl [0, 1, 2] rfl) h
    · have h := i_yes c157 h
      refine lv_iconst (v := 4) hx hb dX9_lookWide_63 (by decide) ?_
      cases h
      exact r_iret hC hw dX9_lookWide_64
set_option maxHeartbeats 4000000 in
set_option maxRecDepth 100000 in
theorem w_X9_lookWide_15 {r : Int32} {D' : dt} (hC : Cx RX9 cX9_lookWide 5 (some .int) p s m args meth c) (hR : 5 ≤ R.frames ∧ 121 ≤ R.locals) : ∀ (o0 a0 : Nat) (x1 : Int32) (xs0 : Int32) (D : dt) (H : Heap) (locs : List Loc) (ls : Array Slot), Is S ad o0 a0 8 → Wd G cA S D ad A s H locs → lv_has ls 5 [(0, .ref a0), (1, .int x1)] → f_X9_lookWide_15 S o0 x1 xs0 D = some (r, D') → W p l e R s m args below meth c H locs 0 0 (MQ below (Qn (some (.int r)) True (wpost G cA S D' ad A) A) args s 0 0 A) (F0 m 15 ls [.int xs0]) := by
  obtain ⟨hx, hb, -⟩ := id hC
  intro o0 a0 x1 xs0 D H locs ls hi0 hw hl h
  unfold f_X9_lookWide_15 at h
  refine lv_istore_n (lv' := [(2, .int xs0), (0, .ref a0), (1, .int x1)]) hx hb dX9_lookWide_15 rfl hl (by decide) rfl (fun ls hl => ?_)
  refine lv_iload_n hx hb dX9_lookWide_16 rfl (lv_at hl 0 rfl) ?_
  refine lv_if_eq (tgt := 32) hx hb dX9_lookWide_17 (by decide) (fun c158 => ?_) (fun c158 => ?_)
  · have h := i_yes c158 h
    exact w_X9_lookWide_32 hC hR o0 a0 x1 xs0 _ _ _ _ hi0 hw (lv_sub hl [1, 2, 0] rfl) h
  · have h := i_no c158 h
    refine lv_aload_n hx hb dX9_lookWide_20 rfl (lv_at hl 1 rfl) ?_
    refine lv_iload_n hx hb dX9_lookWide_21 rfl (lv_at hl 2 rfl) ?_
    refine lv_iconst (v := 1) hx hb dX9_lookWide_22 (by decide) ?_
    refine lv_iadd hx hb dX9_lookWide_23 ?_
    obtain ⟨r160, hq159, h⟩ := pq_i h
    refine r_cV (st' := [.int r160]) [.int (x1 + (1 : Int32))] [] hC hw kc_8 hi0 (k_X9_isSecond _ hi0 hq159) mk_X9_isSecond lk_1412 ⟨Nat.le_trans (by decide) hR.1, Nat.le_trans (by decide) hR.2⟩ ⟨Nat.zero_le _, Nat.zero_le _⟩ rfl hl.1 rfl rfl (Nat.le_of_ble_eq_true rfl) dX9_lookWide_24 (fun hP H locs hw => ?_)
    refine lv_if_ne (tgt := 32) hx hb dX9_lookWide_27 (by decide) (fun c161 => ?_) (fun c161 => ?_)
    · have h := i_no c161 h
      exact w_X9_lookWide_32 hC hR o0 a0 x1 xs0 _ _ _ _ hi0 hw (lv_sub hl [1, 2, 0] rfl) h
    · have h := i_yes c161 h
      refine lv_iconst (v := 1) hx hb dX9_lookWide_30 (by decide) ?_
      cases h
      exact r_iret hC hw dX9_lookWide_31
set_option maxHeartbeats 4000000 in
set_option maxRecDepth 100000 in
theorem w_X9_lookWide_0 {r : Int32} {D' : dt} (hC : Cx RX9 cX9_lookWide 5 (some .int) p s m args meth c) (hR : 5 ≤ R.frames ∧ 121 ≤ R.locals) : ∀ (o0 a0 : Nat) (x1 : Int32) (D : dt) (H : Heap) (locs : List Loc) (ls : Array Slot), Is S ad o0 a0 8 → Wd G cA S D ad A s H locs → lv_has ls 5 [(0, .ref a0), (1, .int x1)] → f_X9_lookWide S o0 x1 D = some (r, D') → W p l e R s m args below meth c H locs 0 0 (MQ below (Qn (some (.int r)) True (wpost G cA S D' ad A) A) args s 0 0 A) (F0 m 0 ls []) := by
  obtain ⟨hx, hb, -⟩ := id hC
  intro o0 a0 x1 D H locs ls hi0 hw hl h
  unfold f_X9_lookWide at h
  refine lv_iload_n hx hb dX9_lookWide_0 rfl (lv_at hl 1 rfl) ?_
  refine lv_iconst (v := 1) hx hb dX9_lookWide_1 (by decide) ?_
  refine lv_iadd hx hb dX9_lookWide_2 ?_
  refine lv_aload_n hx hb dX9_lookWide_3 rfl (lv_at hl 0 rfl) ?_
  refine r_gI hC hw kc_8 hi0 0 rfl lk_1072 dX9_lookWide_4 ?_
  refine lv_icmp_ge (tgt := 14) hx hb dX9_lookWide_7 (by decide) (fun c162 => ?_) (fun c162 => ?_)
  · have h := i_yes c162 h
    refine lv_iconst (v := 0) hx hb dX9_lookWide_14 (by decide) ?_
    exact w_X9_lookWide_15 hC hR o0 a0 x1 (0 : Int32) _ _ _ _ hi0 hw (lv_sub hl [0, 1] rfl) h
  · have h := i_no c162 h
    refine lv_iconst (v := 1) hx hb dX9_lookWide_10 (by decide) ?_
    refine lv_goto (tgt := 15) hx hb dX9_lookWide_11 (by decide) ?_
    exact w_X9_lookWide_15 hC hR o0 a0 x1 (1 : Int32) _ _ _ _ hi0 hw (lv_sub hl [0, 1] rfl) h
set_option maxHeartbeats 4000000 in
set_option maxRecDepth 100000 in
theorem k_X9_lookWide {l : Launch} {G : va_G} {cA : Nat → ClassId} {S : sh} {D D' : dt} {ad : Nat → Nat} (sz : Nat) {o0 a0 : Nat} {x1 : Int32} {r : Int32} (hi0 : Is S ad o0 a0 8) (h : f_X9_lookWide S o0 x1 D = some (r, D')) : Co l yX9_lookWide (Cond.code yX9_lookWide cX9_lookWide 5 (some .int) :: tb0) 5 121 [.ref a0, .int x1] G cA S D ad sz (some (.int r)) True D' := by
  refine Met.ofW (cc := cX9_lookWide) (maxL := 5) (ret := (some .int)) (by decide) rfl ?_
  intro p e s m args below meth c s₁ B hml hv
  obtain ⟨rfl, hsz, hP, hK, hD0, hT, hX⟩ := hv
  subst hsz
  have hts := atoms_spec (ws := Cond.code yX9_lookWide cX9_lookWide 5 (some .int) :: tb0) B.pre
  have hC : Cx RX9 cX9_lookWide 5 (some .int) p s m _ meth c := ⟨B.exec, B.bytes, hml, findClass_of_methodNamed B.named, fun w q => hts w (List.mem_cons_of_mem _ q), B.returns, B.notSynchronized⟩
  have hw := Wd.entry hP hK hD0 hT hX
  have hl := lv_entry ([.ref a0, .int x1]) (n := 5) (Nat.le_of_ble_eq_true rfl)
  rw [lg_entry_eq]
  exact w_X9_lookWide_0 hC ⟨Nat.le_refl _, Nat.le_refl _⟩ o0 a0 x1 D _ _ _ hi0 hw hl h
end

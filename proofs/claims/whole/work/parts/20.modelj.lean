theorem dX9_lookPut_0 : decode cX9_lookPut 0 = .ok (.aload_n 0, 1) := by decide +kernel
theorem dX9_lookPut_1 : decode cX9_lookPut 1 = .ok (.getfield 13, 3) := by decide +kernel
theorem dX9_lookPut_4 : decode cX9_lookPut 4 = .ok (.iload_n 1, 1) := by decide +kernel
theorem dX9_lookPut_5 : decode cX9_lookPut 5 = .ok (.iaload, 1) := by decide +kernel
theorem dX9_lookPut_6 : decode cX9_lookPut 6 = .ok (.istore 4, 2) := by decide +kernel
theorem dX9_lookPut_8 : decode cX9_lookPut 8 = .ok (.aload_n 0, 1) := by decide +kernel
theorem dX9_lookPut_9 : decode cX9_lookPut 9 = .ok (.getfield 106, 3) := by decide +kernel
theorem dX9_lookPut_12 : decode cX9_lookPut 12 = .ok (.iload 4, 2) := by decide +kernel
theorem dX9_lookPut_14 : decode cX9_lookPut 14 = .ok (.iaload, 1) := by decide +kernel
theorem dX9_lookPut_15 : decode cX9_lookPut 15 = .ok (.iconst 3, 1) := by decide +kernel
theorem dX9_lookPut_16 : decode cX9_lookPut 16 = .ok (.if_icmp .ne 7, 3) := by decide +kernel
theorem dX9_lookPut_19 : decode cX9_lookPut 19 = .ok (.iconst 1, 1) := by decide +kernel
theorem dX9_lookPut_20 : decode cX9_lookPut 20 = .ok (.goto 4, 3) := by decide +kernel
theorem dX9_lookPut_23 : decode cX9_lookPut 23 = .ok (.iconst 0, 1) := by decide +kernel
theorem dX9_lookPut_24 : decode cX9_lookPut 24 = .ok (.istore 5, 2) := by decide +kernel
theorem dX9_lookPut_26 : decode cX9_lookPut 26 = .ok (.aload_n 0, 1) := by decide +kernel
theorem dX9_lookPut_27 : decode cX9_lookPut 27 = .ok (.getfield 109, 3) := by decide +kernel
theorem dX9_lookPut_30 : decode cX9_lookPut 30 = .ok (.iload 4, 2) := by decide +kernel
theorem dX9_lookPut_32 : decode cX9_lookPut 32 = .ok (.laload, 1) := by decide +kernel
theorem dX9_lookPut_33 : decode cX9_lookPut 33 = .ok (.aload_n 0, 1) := by decide +kernel
theorem dX9_lookPut_34 : decode cX9_lookPut 34 = .ok (.getfield 19, 3) := by decide +kernel
theorem dX9_lookPut_37 : decode cX9_lookPut 37 = .ok (.iload_n 1, 1) := by decide +kernel
theorem dX9_lookPut_38 : decode cX9_lookPut 38 = .ok (.iaload, 1) := by decide +kernel
theorem dX9_lookPut_39 : decode cX9_lookPut 39 = .ok (.i2l, 1) := by decide +kernel
theorem dX9_lookPut_40 : decode cX9_lookPut 40 = .ok (.ladd, 1) := by decide +kernel
theorem dX9_lookPut_41 : decode cX9_lookPut 41 = .ok (.ldc2_w 476, 3) := by decide +kernel
theorem dX9_lookPut_44 : decode cX9_lookPut 44 = .ok (.ladd, 1) := by decide +kernel
theorem dX9_lookPut_45 : decode cX9_lookPut 45 = .ok (.lstore 6, 2) := by decide +kernel
theorem dX9_lookPut_47 : decode cX9_lookPut 47 = .ok (.iload_n 3, 1) := by decide +kernel
theorem dX9_lookPut_48 : decode cX9_lookPut 48 = .ok (.ifCond .lt 29, 3) := by decide +kernel
theorem dX9_lookPut_51 : decode cX9_lookPut 51 = .ok (.iload_n 2, 1) := by decide +kernel
theorem dX9_lookPut_52 : decode cX9_lookPut 52 = .ok (.bipush 8, 2) := by decide +kernel
theorem dX9_lookPut_54 : decode cX9_lookPut 54 = .ok (.if_icmp .ne 23, 3) := by decide +kernel
theorem dX9_lookPut_57 : decode cX9_lookPut 57 = .ok (.iload 5, 2) := by decide +kernel
theorem dX9_lookPut_59 : decode cX9_lookPut 59 = .ok (.ifCond .eq 18, 3) := by decide +kernel
theorem dX9_lookPut_62 : decode cX9_lookPut 62 = .ok (.lload 6, 2) := by decide +kernel
theorem dX9_lookPut_64 : decode cX9_lookPut 64 = .ok (.ldc2_w 478, 3) := by decide +kernel
theorem dX9_lookPut_67 : decode cX9_lookPut 67 = .ok (.land, 1) := by decide +kernel
theorem dX9_lookPut_68 : decode cX9_lookPut 68 = .ok (.lconst 0, 1) := by decide +kernel
theorem dX9_lookPut_69 : decode cX9_lookPut 69 = .ok (.lcmp, 1) := by decide +kernel
theorem dX9_lookPut_70 : decode cX9_lookPut 70 = .ok (.ifCond .ne 7, 3) := by decide +kernel
theorem dX9_lookPut_73 : decode cX9_lookPut 73 = .ok (.iconst 1, 1) := by decide +kernel
theorem dX9_lookPut_74 : decode cX9_lookPut 74 = .ok (.goto 4, 3) := by decide +kernel
theorem dX9_lookPut_77 : decode cX9_lookPut 77 = .ok (.iconst 0, 1) := by decide +kernel
theorem dX9_lookPut_78 : decode cX9_lookPut 78 = .ok (.istore 8, 2) := by decide +kernel
theorem dX9_lookPut_80 : decode cX9_lookPut 80 = .ok (.iload_n 3, 1) := by decide +kernel
theorem dX9_lookPut_81 : decode cX9_lookPut 81 = .ok (.ifCond .lt 20, 3) := by decide +kernel
theorem dX9_lookPut_84 : decode cX9_lookPut 84 = .ok (.aload_n 0, 1) := by decide +kernel
theorem dX9_lookPut_85 : decode cX9_lookPut 85 = .ok (.getfield 106, 3) := by decide +kernel
theorem dX9_lookPut_88 : decode cX9_lookPut 88 = .ok (.iload_n 3, 1) := by decide +kernel
theorem dX9_lookPut_89 : decode cX9_lookPut 89 = .ok (.iaload, 1) := by decide +kernel
theorem dX9_lookPut_90 : decode cX9_lookPut 90 = .ok (.iconst 1, 1) := by decide +kernel
theorem dX9_lookPut_91 : decode cX9_lookPut 91 = .ok (.if_icmp .eq 10, 3) := by decide +kernel
theorem dX9_lookPut_94 : decode cX9_lookPut 94 = .ok (.iload 8, 2) := by decide +kernel
theorem dX9_lookPut_96 : decode cX9_lookPut 96 = .ok (.ifCond .ne 5, 3) := by decide +kernel
theorem dX9_lookPut_99 : decode cX9_lookPut 99 = .ok (.iconst 3, 1) := by decide +kernel
theorem dX9_lookPut_100 : decode cX9_lookPut 100 = .ok (.ireturn, 1) := by decide +kernel
theorem dX9_lookPut_101 : decode cX9_lookPut 101 = .ok (.aload_n 0, 1) := by decide +kernel
theorem dX9_lookPut_102 : decode cX9_lookPut 102 = .ok (.iload 4, 2) := by decide +kernel
theorem dX9_lookPut_104 : decode cX9_lookPut 104 = .ok (.aload_n 0, 1) := by decide +kernel
theorem dX9_lookPut_105 : decode cX9_lookPut 105 = .ok (.getfield 19, 3) := by decide +kernel
theorem dX9_lookPut_108 : decode cX9_lookPut 108 = .ok (.iload_n 1, 1) := by decide +kernel
theorem dX9_lookPut_109 : decode cX9_lookPut 109 = .ok (.iaload, 1) := by decide +kernel
theorem dX9_lookPut_110 : decode cX9_lookPut 110 = .ok (.iload_n 2, 1) := by decide +kernel
theorem dX9_lookPut_111 : decode cX9_lookPut 111 = .ok (.iconst 1, 1) := by decide +kernel
theorem dX9_lookPut_112 : decode cX9_lookPut 112 = .ok (.invokevirtual 466, 3) := by decide +kernel
theorem dX9_lookPut_115 : decode cX9_lookPut 115 = .ok (.istore 9, 2) := by decide +kernel
theorem dX9_lookPut_117 : decode cX9_lookPut 117 = .ok (.iload 9, 2) := by decide +kernel
theorem dX9_lookPut_119 : decode cX9_lookPut 119 = .ok (.ifCond .gt 8, 3) := by decide +kernel
theorem dX9_lookPut_122 : decode cX9_lookPut 122 = .ok (.iload 5, 2) := by decide +kernel
theorem dX9_lookPut_124 : decode cX9_lookPut 124 = .ok (.ifCond .ne 6, 3) := by decide +kernel
theorem dX9_lookPut_127 : decode cX9_lookPut 127 = .ok (.iload 9, 2) := by decide +kernel
theorem dX9_lookPut_129 : decode cX9_lookPut 129 = .ok (.ireturn, 1) := by decide +kernel
theorem dX9_lookPut_130 : decode cX9_lookPut 130 = .ok (.lload 6, 2) := by decide +kernel
theorem dX9_lookPut_132 : decode cX9_lookPut 132 = .ok (.l2i, 1) := by decide +kernel
theorem dX9_lookPut_133 : decode cX9_lookPut 133 = .ok (.istore 10, 2) := by decide +kernel
theorem dX9_lookPut_135 : decode cX9_lookPut 135 = .ok (.aload_n 0, 1) := by decide +kernel
theorem dX9_lookPut_136 : decode cX9_lookPut 136 = .ok (.iload 10, 2) := by decide +kernel
theorem dX9_lookPut_138 : decode cX9_lookPut 138 = .ok (.iload_n 2, 1) := by decide +kernel
theorem dX9_lookPut_139 : decode cX9_lookPut 139 = .ok (.invokevirtual 480, 3) := by decide +kernel
theorem dX9_lookPut_142 : decode cX9_lookPut 142 = .ok (.iload 8, 2) := by decide +kernel
theorem dX9_lookPut_144 : decode cX9_lookPut 144 = .ok (.ifCond .eq 58, 3) := by decide +kernel
theorem dX9_lookPut_147 : decode cX9_lookPut 147 = .ok (.aload_n 0, 1) := by decide +kernel
theorem dX9_lookPut_148 : decode cX9_lookPut 148 = .ok (.iload_n 3, 1) := by decide +kernel
theorem dX9_lookPut_149 : decode cX9_lookPut 149 = .ok (.bipush 11, 2) := by decide +kernel
theorem dX9_lookPut_151 : decode cX9_lookPut 151 = .ok (.iload 10, 2) := by decide +kernel
theorem dX9_lookPut_153 : decode cX9_lookPut 153 = .ok (.bipush 8, 2) := by decide +kernel
theorem dX9_lookPut_155 : decode cX9_lookPut 155 = .ok (.idiv, 1) := by decide +kernel
theorem dX9_lookPut_156 : decode cX9_lookPut 156 = .ok (.iadd, 1) := by decide +kernel
theorem dX9_lookPut_157 : decode cX9_lookPut 157 = .ok (.invokevirtual 409, 3) := by decide +kernel
theorem dX9_lookPut_160 : decode cX9_lookPut 160 = .ok (.iload 10, 2) := by decide +kernel
theorem dX9_lookPut_162 : decode cX9_lookPut 162 = .ok (.istore 11, 2) := by decide +kernel
theorem dX9_lookPut_164 : decode cX9_lookPut 164 = .ok (.iload 11, 2) := by decide +kernel
theorem dX9_lookPut_166 : decode cX9_lookPut 166 = .ok (.iload 10, 2) := by decide +kernel
theorem dX9_lookPut_168 : decode cX9_lookPut 168 = .ok (.bipush 8, 2) := by decide +kernel
theorem dX9_lookPut_170 : decode cX9_lookPut 170 = .ok (.iadd, 1) := by decide +kernel
theorem dX9_lookPut_171 : decode cX9_lookPut 171 = .ok (.if_icmp .ge 31, 3) := by decide +kernel
theorem dX9_lookPut_174 : decode cX9_lookPut 174 = .ok (.aload_n 0, 1) := by decide +kernel
theorem dX9_lookPut_175 : decode cX9_lookPut 175 = .ok (.getfield 121, 3) := by decide +kernel
theorem dX9_lookPut_178 : decode cX9_lookPut 178 = .ok (.iload 11, 2) := by decide +kernel
theorem dX9_lookPut_180 : decode cX9_lookPut 180 = .ok (.aload_n 0, 1) := by decide +kernel
theorem dX9_lookPut_181 : decode cX9_lookPut 181 = .ok (.getfield 106, 3) := by decide +kernel
theorem dX9_lookPut_184 : decode cX9_lookPut 184 = .ok (.iload_n 3, 1) := by decide +kernel
theorem dX9_lookPut_185 : decode cX9_lookPut 185 = .ok (.iaload, 1) := by decide +kernel
theorem dX9_lookPut_186 : decode cX9_lookPut 186 = .ok (.iconst 1, 1) := by decide +kernel
theorem dX9_lookPut_187 : decode cX9_lookPut 187 = .ok (.if_icmp .ne 7, 3) := by decide +kernel
theorem dX9_lookPut_190 : decode cX9_lookPut 190 = .ok (.iconst 1, 1) := by decide +kernel
theorem dX9_lookPut_191 : decode cX9_lookPut 191 = .ok (.goto 4, 3) := by decide +kernel
theorem dX9_lookPut_194 : decode cX9_lookPut 194 = .ok (.iconst 0, 1) := by decide +kernel
theorem dX9_lookPut_195 : decode cX9_lookPut 195 = .ok (.bastore, 1) := by decide +kernel
theorem dX9_lookPut_196 : decode cX9_lookPut 196 = .ok (.iinc 11 1, 3) := by decide +kernel
theorem dX9_lookPut_199 : decode cX9_lookPut 199 = .ok (.goto (-35), 3) := by decide +kernel
theorem dX9_lookPut_202 : decode cX9_lookPut 202 = .ok (.iconst 0, 1) := by decide +kernel
theorem dX9_lookPut_203 : decode cX9_lookPut 203 = .ok (.ireturn, 1) := by decide +kernel
theorem dX9_lookBoth_0 : decode cX9_lookBoth 0 = .ok (.aload_n 0, 1) := by decide +kernel
theorem dX9_lookBoth_1 : decode cX9_lookBoth 1 = .ok (.getfield 13, 3) := by decide +kernel
theorem dX9_lookBoth_4 : decode cX9_lookBoth 4 = .ok (.iload_n 1, 1) := by decide +kernel
theorem dX9_lookBoth_5 : decode cX9_lookBoth 5 = .ok (.iaload, 1) := by decide +kernel
theorem dX9_lookBoth_6 : decode cX9_lookBoth 6 = .ok (.istore_n 3, 1) := by decide +kernel
theorem dX9_lookBoth_7 : decode cX9_lookBoth 7 = .ok (.aload_n 0, 1) := by decide +kernel
theorem dX9_lookBoth_8 : decode cX9_lookBoth 8 = .ok (.getfield 16, 3) := by decide +kernel
theorem dX9_lookBoth_11 : decode cX9_lookBoth 11 = .ok (.iload_n 1, 1) := by decide +kernel
theorem dX9_lookBoth_12 : decode cX9_lookBoth 12 = .ok (.iaload, 1) := by decide +kernel
theorem dX9_lookBoth_13 : decode cX9_lookBoth 13 = .ok (.istore 4, 2) := by decide +kernel
theorem dX9_lookBoth_15 : decode cX9_lookBoth 15 = .ok (.aload_n 0, 1) := by decide +kernel
theorem dX9_lookBoth_16 : decode cX9_lookBoth 16 = .ok (.getfield 22, 3) := by decide +kernel
theorem dX9_lookBoth_19 : decode cX9_lookBoth 19 = .ok (.iload_n 1, 1) := by decide +kernel
theorem dX9_lookBoth_20 : decode cX9_lookBoth 20 = .ok (.iaload, 1) := by decide +kernel
theorem dX9_lookBoth_21 : decode cX9_lookBoth 21 = .ok (.sipush 241, 3) := by decide +kernel
theorem dX9_lookBoth_24 : decode cX9_lookBoth 24 = .ok (.if_icmp .ne 7, 3) := by decide +kernel
theorem dX9_lookBoth_27 : decode cX9_lookBoth 27 = .ok (.iconst 1, 1) := by decide +kernel
theorem dX9_lookBoth_28 : decode cX9_lookBoth 28 = .ok (.goto 4, 3) := by decide +kernel
theorem dX9_lookBoth_31 : decode cX9_lookBoth 31 = .ok (.iconst 0, 1) := by decide +kernel
theorem dX9_lookBoth_32 : decode cX9_lookBoth 32 = .ok (.istore 5, 2) := by decide +kernel
theorem dX9_lookBoth_34 : decode cX9_lookBoth 34 = .ok (.aload_n 0, 1) := by decide +kernel
theorem dX9_lookBoth_35 : decode cX9_lookBoth 35 = .ok (.getfield 106, 3) := by decide +kernel
theorem dX9_lookBoth_38 : decode cX9_lookBoth 38 = .ok (.iload_n 3, 1) := by decide +kernel
theorem dX9_lookBoth_39 : decode cX9_lookBoth 39 = .ok (.iaload, 1) := by decide +kernel
theorem dX9_lookBoth_40 : decode cX9_lookBoth 40 = .ok (.ifCond .eq 27, 3) := by decide +kernel
theorem dX9_lookBoth_43 : decode cX9_lookBoth 43 = .ok (.aload_n 0, 1) := by decide +kernel
theorem dX9_lookBoth_44 : decode cX9_lookBoth 44 = .ok (.getfield 106, 3) := by decide +kernel
theorem dX9_lookBoth_47 : decode cX9_lookBoth 47 = .ok (.iload 4, 2) := by decide +kernel
theorem dX9_lookBoth_49 : decode cX9_lookBoth 49 = .ok (.iaload, 1) := by decide +kernel
theorem dX9_lookBoth_50 : decode cX9_lookBoth 50 = .ok (.ifCond .eq 17, 3) := by decide +kernel
theorem dX9_lookBoth_53 : decode cX9_lookBoth 53 = .ok (.iload 5, 2) := by decide +kernel
theorem dX9_lookBoth_55 : decode cX9_lookBoth 55 = .ok (.ifCond .eq 14, 3) := by decide +kernel
theorem dX9_lookBoth_58 : decode cX9_lookBoth 58 = .ok (.aload_n 0, 1) := by decide +kernel
theorem dX9_lookBoth_59 : decode cX9_lookBoth 59 = .ok (.getfield 106, 3) := by decide +kernel
theorem dX9_lookBoth_62 : decode cX9_lookBoth 62 = .ok (.iconst 0, 1) := by decide +kernel
theorem dX9_lookBoth_63 : decode cX9_lookBoth 63 = .ok (.iaload, 1) := by decide +kernel
theorem dX9_lookBoth_64 : decode cX9_lookBoth 64 = .ok (.ifCond .ne 5, 3) := by decide +kernel
theorem dX9_lookBoth_67 : decode cX9_lookBoth 67 = .ok (.iconst 2, 1) := by decide +kernel
theorem dX9_lookBoth_68 : decode cX9_lookBoth 68 = .ok (.ireturn, 1) := by decide +kernel
theorem dX9_lookBoth_69 : decode cX9_lookBoth 69 = .ok (.aload_n 0, 1) := by decide +kernel
theorem dX9_lookBoth_70 : decode cX9_lookBoth 70 = .ok (.iload_n 3, 1) := by decide +kernel
theorem dX9_lookBoth_71 : decode cX9_lookBoth 71 = .ok (.aload_n 0, 1) := by decide +kernel
theorem dX9_lookBoth_72 : decode cX9_lookBoth 72 = .ok (.getfield 19, 3) := by decide +kernel
theorem dX9_lookBoth_75 : decode cX9_lookBoth 75 = .ok (.iload_n 1, 1) := by decide +kernel
theorem dX9_lookBoth_76 : decode cX9_lookBoth 76 = .ok (.iaload, 1) := by decide +kernel
theorem dX9_lookBoth_77 : decode cX9_lookBoth 77 = .ok (.iload_n 2, 1) := by decide +kernel
theorem dX9_lookBoth_78 : decode cX9_lookBoth 78 = .ok (.iconst 1, 1) := by decide +kernel
theorem dX9_lookBoth_79 : decode cX9_lookBoth 79 = .ok (.invokevirtual 466, 3) := by decide +kernel
theorem dX9_lookBoth_82 : decode cX9_lookBoth 82 = .ok (.istore 6, 2) := by decide +kernel
theorem dX9_lookBoth_84 : decode cX9_lookBoth 84 = .ok (.iload 6, 2) := by decide +kernel
theorem dX9_lookBoth_86 : decode cX9_lookBoth 86 = .ok (.iconst 3, 1) := by decide +kernel
theorem dX9_lookBoth_87 : decode cX9_lookBoth 87 = .ok (.if_icmp .eq 29, 3) := by decide +kernel
theorem dX9_lookBoth_90 : decode cX9_lookBoth 90 = .ok (.aload_n 0, 1) := by decide +kernel
theorem dX9_lookBoth_91 : decode cX9_lookBoth 91 = .ok (.getfield 106, 3) := by decide +kernel
theorem dX9_lookBoth_94 : decode cX9_lookBoth 94 = .ok (.iload 4, 2) := by decide +kernel
theorem dX9_lookBoth_96 : decode cX9_lookBoth 96 = .ok (.iaload, 1) := by decide +kernel
theorem dX9_lookBoth_97 : decode cX9_lookBoth 97 = .ok (.iconst 1, 1) := by decide +kernel
theorem dX9_lookBoth_98 : decode cX9_lookBoth 98 = .ok (.if_icmp .ne 18, 3) := by decide +kernel
theorem dX9_lookBoth_101 : decode cX9_lookBoth 101 = .ok (.iload 5, 2) := by decide +kernel
theorem dX9_lookBoth_103 : decode cX9_lookBoth 103 = .ok (.ifCond .eq 15, 3) := by decide +kernel
theorem dX9_lookBoth_106 : decode cX9_lookBoth 106 = .ok (.aload_n 0, 1) := by decide +kernel
theorem dX9_lookBoth_107 : decode cX9_lookBoth 107 = .ok (.getfield 106, 3) := by decide +kernel
theorem dX9_lookBoth_110 : decode cX9_lookBoth 110 = .ok (.iconst 0, 1) := by decide +kernel
theorem dX9_lookBoth_111 : decode cX9_lookBoth 111 = .ok (.iaload, 1) := by decide +kernel
theorem dX9_lookBoth_112 : decode cX9_lookBoth 112 = .ok (.iconst 1, 1) := by decide +kernel
theorem dX9_lookBoth_113 : decode cX9_lookBoth 113 = .ok (.if_icmp .eq 5, 3) := by decide +kernel
theorem dX9_lookBoth_116 : decode cX9_lookBoth 116 = .ok (.iconst 3, 1) := by decide +kernel
theorem dX9_lookBoth_117 : decode cX9_lookBoth 117 = .ok (.ireturn, 1) := by decide +kernel
theorem dX9_lookBoth_118 : decode cX9_lookBoth 118 = .ok (.iload 6, 2) := by decide +kernel
theorem dX9_lookBoth_120 : decode cX9_lookBoth 120 = .ok (.ifCond .le 6, 3) := by decide +kernel
theorem dX9_lookBoth_123 : decode cX9_lookBoth 123 = .ok (.iload 6, 2) := by decide +kernel
theorem dX9_lookBoth_125 : decode cX9_lookBoth 125 = .ok (.ireturn, 1) := by decide +kernel
theorem dX9_lookBoth_126 : decode cX9_lookBoth 126 = .ok (.aload_n 0, 1) := by decide +kernel
theorem dX9_lookBoth_127 : decode cX9_lookBoth 127 = .ok (.getfield 106, 3) := by decide +kernel
theorem dX9_lookBoth_130 : decode cX9_lookBoth 130 = .ok (.iload_n 3, 1) := by decide +kernel
theorem dX9_lookBoth_131 : decode cX9_lookBoth 131 = .ok (.iaload, 1) := by decide +kernel
theorem dX9_lookBoth_132 : decode cX9_lookBoth 132 = .ok (.iconst 3, 1) := by decide +kernel
theorem dX9_lookBoth_133 : decode cX9_lookBoth 133 = .ok (.if_icmp .ne 42, 3) := by decide +kernel
theorem dX9_lookBoth_136 : decode cX9_lookBoth 136 = .ok (.aload_n 0, 1) := by decide +kernel
theorem dX9_lookBoth_137 : decode cX9_lookBoth 137 = .ok (.getfield 109, 3) := by decide +kernel
theorem dX9_lookBoth_140 : decode cX9_lookBoth 140 = .ok (.iload_n 3, 1) := by decide +kernel
theorem dX9_lookBoth_141 : decode cX9_lookBoth 141 = .ok (.laload, 1) := by decide +kernel
theorem dX9_lookBoth_142 : decode cX9_lookBoth 142 = .ok (.l2i, 1) := by decide +kernel
theorem dX9_lookBoth_143 : decode cX9_lookBoth 143 = .ok (.aload_n 0, 1) := by decide +kernel
theorem dX9_lookBoth_144 : decode cX9_lookBoth 144 = .ok (.getfield 19, 3) := by decide +kernel
theorem dX9_lookBoth_147 : decode cX9_lookBoth 147 = .ok (.iload_n 1, 1) := by decide +kernel
theorem dX9_lookBoth_148 : decode cX9_lookBoth 148 = .ok (.iaload, 1) := by decide +kernel
theorem dX9_lookBoth_149 : decode cX9_lookBoth 149 = .ok (.iadd, 1) := by decide +kernel
theorem dX9_lookBoth_150 : decode cX9_lookBoth 150 = .ok (.sipush 512, 3) := by decide +kernel
theorem dX9_lookBoth_153 : decode cX9_lookBoth 153 = .ok (.iadd, 1) := by decide +kernel
theorem dX9_lookBoth_154 : decode cX9_lookBoth 154 = .ok (.istore 7, 2) := by decide +kernel
theorem dX9_lookBoth_156 : decode cX9_lookBoth 156 = .ok (.aload_n 0, 1) := by decide +kernel
theorem dX9_lookBoth_157 : decode cX9_lookBoth 157 = .ok (.iload 7, 2) := by decide +kernel
theorem dX9_lookBoth_159 : decode cX9_lookBoth 159 = .ok (.iload_n 2, 1) := by decide +kernel
theorem dX9_lookBoth_160 : decode cX9_lookBoth 160 = .ok (.invokevirtual 470, 3) := by decide +kernel
theorem dX9_lookBoth_163 : decode cX9_lookBoth 163 = .ok (.ifCond .ne 5, 3) := by decide +kernel
theorem dX9_lookBoth_166 : decode cX9_lookBoth 166 = .ok (.iconst 4, 1) := by decide +kernel
theorem dX9_lookBoth_167 : decode cX9_lookBoth 167 = .ok (.ireturn, 1) := by decide +kernel
theorem dX9_lookBoth_168 : decode cX9_lookBoth 168 = .ok (.aload_n 0, 1) := by decide +kernel
theorem dX9_lookBoth_169 : decode cX9_lookBoth 169 = .ok (.iload 7, 2) := by decide +kernel
theorem dX9_lookBoth_171 : decode cX9_lookBoth 171 = .ok (.iload_n 2, 1) := by decide +kernel
theorem dX9_lookBoth_172 : decode cX9_lookBoth 172 = .ok (.invokevirtual 480, 3) := by decide +kernel
theorem dX9_lookBoth_175 : decode cX9_lookBoth 175 = .ok (.iload 5, 2) := by decide +kernel
theorem dX9_lookBoth_177 : decode cX9_lookBoth 177 = .ok (.ifCond .eq 16, 3) := by decide +kernel
theorem dX9_lookBoth_180 : decode cX9_lookBoth 180 = .ok (.aload_n 0, 1) := by decide +kernel
theorem dX9_lookBoth_181 : decode cX9_lookBoth 181 = .ok (.iconst 0, 1) := by decide +kernel
theorem dX9_lookBoth_182 : decode cX9_lookBoth 182 = .ok (.lconst 0, 1) := by decide +kernel
theorem dX9_lookBoth_183 : decode cX9_lookBoth 183 = .ok (.iload_n 2, 1) := by decide +kernel
theorem dX9_lookBoth_184 : decode cX9_lookBoth 184 = .ok (.invokestatic 473, 3) := by decide +kernel
theorem dX9_lookBoth_187 : decode cX9_lookBoth 187 = .ok (.invokevirtual 393, 3) := by decide +kernel
theorem dX9_lookBoth_190 : decode cX9_lookBoth 190 = .ok (.goto 26, 3) := by decide +kernel
theorem dX9_lookBoth_193 : decode cX9_lookBoth 193 = .ok (.aload_n 0, 1) := by decide +kernel
theorem dX9_lookBoth_194 : decode cX9_lookBoth 194 = .ok (.getfield 22, 3) := by decide +kernel
theorem dX9_lookBoth_197 : decode cX9_lookBoth 197 = .ok (.iload_n 1, 1) := by decide +kernel
theorem dX9_lookBoth_198 : decode cX9_lookBoth 198 = .ok (.iaload, 1) := by decide +kernel
theorem dX9_lookBoth_199 : decode cX9_lookBoth 199 = .ok (.iconst 1, 1) := by decide +kernel
theorem dX9_lookBoth_200 : decode cX9_lookBoth 200 = .ok (.iand, 1) := by decide +kernel
theorem dX9_lookBoth_201 : decode cX9_lookBoth 201 = .ok (.iconst 1, 1) := by decide +kernel
theorem dX9_lookBoth_202 : decode cX9_lookBoth 202 = .ok (.if_icmp .ne 14, 3) := by decide +kernel
theorem dX9_lookBoth_205 : decode cX9_lookBoth 205 = .ok (.aload_n 0, 1) := by decide +kernel
theorem dX9_lookBoth_206 : decode cX9_lookBoth 206 = .ok (.iload 4, 2) := by decide +kernel
theorem dX9_lookBoth_208 : decode cX9_lookBoth 208 = .ok (.lconst 0, 1) := by decide +kernel
theorem dX9_lookBoth_209 : decode cX9_lookBoth 209 = .ok (.iload_n 2, 1) := by decide +kernel
theorem dX9_lookBoth_210 : decode cX9_lookBoth 210 = .ok (.invokestatic 473, 3) := by decide +kernel
theorem dX9_lookBoth_213 : decode cX9_lookBoth 213 = .ok (.invokevirtual 393, 3) := by decide +kernel
theorem dX9_lookBoth_216 : decode cX9_lookBoth 216 = .ok (.iconst 0, 1) := by decide +kernel
theorem dX9_lookBoth_217 : decode cX9_lookBoth 217 = .ok (.ireturn, 1) := by decide +kernel
theorem dX9_lookWide_0 : decode cX9_lookWide 0 = .ok (.iload_n 1, 1) := by decide +kernel
theorem dX9_lookWide_1 : decode cX9_lookWide 1 = .ok (.iconst 1, 1) := by decide +kernel
theorem dX9_lookWide_2 : decode cX9_lookWide 2 = .ok (.iadd, 1) := by decide +kernel
theorem dX9_lookWide_3 : decode cX9_lookWide 3 = .ok (.aload_n 0, 1) := by decide +kernel
theorem dX9_lookWide_4 : decode cX9_lookWide 4 = .ok (.getfield 147, 3) := by decide +kernel
theorem dX9_lookWide_7 : decode cX9_lookWide 7 = .ok (.if_icmp .ge 7, 3) := by decide +kernel
theorem dX9_lookWide_10 : decode cX9_lookWide 10 = .ok (.iconst 1, 1) := by decide +kernel
theorem dX9_lookWide_11 : decode cX9_lookWide 11 = .ok (.goto 4, 3) := by decide +kernel
theorem dX9_lookWide_14 : decode cX9_lookWide 14 = .ok (.iconst 0, 1) := by decide +kernel
theorem dX9_lookWide_15 : decode cX9_lookWide 15 = .ok (.istore_n 2, 1) := by decide +kernel
theorem dX9_lookWide_16 : decode cX9_lookWide 16 = .ok (.iload_n 2, 1) := by decide +kernel
theorem dX9_lookWide_17 : decode cX9_lookWide 17 = .ok (.ifCond .eq 15, 3) := by decide +kernel
theorem dX9_lookWide_20 : decode cX9_lookWide 20 = .ok (.aload_n 0, 1) := by decide +kernel
theorem dX9_lookWide_21 : decode cX9_lookWide 21 = .ok (.iload_n 1, 1) := by decide +kernel
theorem dX9_lookWide_22 : decode cX9_lookWide 22 = .ok (.iconst 1, 1) := by decide +kernel
theorem dX9_lookWide_23 : decode cX9_lookWide 23 = .ok (.iadd, 1) := by decide +kernel
theorem dX9_lookWide_24 : decode cX9_lookWide 24 = .ok (.invokevirtual 309, 3) := by decide +kernel
theorem dX9_lookWide_27 : decode cX9_lookWide 27 = .ok (.ifCond .ne 5, 3) := by decide +kernel
theorem dX9_lookWide_30 : decode cX9_lookWide 30 = .ok (.iconst 1, 1) := by decide +kernel
theorem dX9_lookWide_31 : decode cX9_lookWide 31 = .ok (.ireturn, 1) := by decide +kernel
theorem dX9_lookWide_32 : decode cX9_lookWide 32 = .ok (.aload_n 0, 1) := by decide +kernel
theorem dX9_lookWide_33 : decode cX9_lookWide 33 = .ok (.getfield 16, 3) := by decide +kernel
theorem dX9_lookWide_36 : decode cX9_lookWide 36 = .ok (.iload_n 1, 1) := by decide +kernel
theorem dX9_lookWide_37 : decode cX9_lookWide 37 = .ok (.iaload, 1) := by decide +kernel
theorem dX9_lookWide_38 : decode cX9_lookWide 38 = .ok (.iconst 1, 1) := by decide +kernel
theorem dX9_lookWide_39 : decode cX9_lookWide 39 = .ok (.if_icmp .ne 26, 3) := by decide +kernel
theorem dX9_lookWide_42 : decode cX9_lookWide 42 = .ok (.aload_n 0, 1) := by decide +kernel
theorem dX9_lookWide_43 : decode cX9_lookWide 43 = .ok (.getfield 22, 3) := by decide +kernel
theorem dX9_lookWide_46 : decode cX9_lookWide 46 = .ok (.iload_n 1, 1) := by decide +kernel
theorem dX9_lookWide_47 : decode cX9_lookWide 47 = .ok (.iaload, 1) := by decide +kernel
theorem dX9_lookWide_48 : decode cX9_lookWide 48 = .ok (.i2l, 1) := by decide +kernel
theorem dX9_lookWide_49 : decode cX9_lookWide 49 = .ok (.lconst 0, 1) := by decide +kernel
theorem dX9_lookWide_50 : decode cX9_lookWide 50 = .ok (.aload_n 0, 1) := by decide +kernel
theorem dX9_lookWide_51 : decode cX9_lookWide 51 = .ok (.getfield 204, 3) := by decide +kernel
theorem dX9_lookWide_54 : decode cX9_lookWide 54 = .ok (.iconst 1, 1) := by decide +kernel
theorem dX9_lookWide_55 : decode cX9_lookWide 55 = .ok (.isub, 1) := by decide +kernel
theorem dX9_lookWide_56 : decode cX9_lookWide 56 = .ok (.i2l, 1) := by decide +kernel
theorem dX9_lookWide_57 : decode cX9_lookWide 57 = .ok (.invokestatic 132, 3) := by decide +kernel
theorem dX9_lookWide_60 : decode cX9_lookWide 60 = .ok (.ifCond .ne 5, 3) := by decide +kernel
theorem dX9_lookWide_63 : decode cX9_lookWide 63 = .ok (.iconst 4, 1) := by decide +kernel
theorem dX9_lookWide_64 : decode cX9_lookWide 64 = .ok (.ireturn, 1) := by decide +kernel
theorem dX9_lookWide_65 : decode cX9_lookWide 65 = .ok (.iload_n 2, 1) := by decide +kernel
theorem dX9_lookWide_66 : decode cX9_lookWide 66 = .ok (.ifCond .ne 6, 3) := by decide +kernel
theorem dX9_lookWide_69 : decode cX9_lookWide 69 = .ok (.bipush 6, 2) := by decide +kernel
theorem dX9_lookWide_71 : decode cX9_lookWide 71 = .ok (.ireturn, 1) := by decide +kernel
theorem dX9_lookWide_72 : decode cX9_lookWide 72 = .ok (.aload_n 0, 1) := by decide +kernel
theorem dX9_lookWide_73 : decode cX9_lookWide 73 = .ok (.getfield 16, 3) := by decide +kernel
theorem dX9_lookWide_76 : decode cX9_lookWide 76 = .ok (.iload_n 1, 1) := by decide +kernel
theorem dX9_lookWide_77 : decode cX9_lookWide 77 = .ok (.iaload, 1) := by decide +kernel
theorem dX9_lookWide_78 : decode cX9_lookWide 78 = .ok (.iconst 1, 1) := by decide +kernel
theorem dX9_lookWide_79 : decode cX9_lookWide 79 = .ok (.if_icmp .ne 45, 3) := by decide +kernel
theorem dX9_lookWide_82 : decode cX9_lookWide 82 = .ok (.aload_n 0, 1) := by decide +kernel
theorem dX9_lookWide_83 : decode cX9_lookWide 83 = .ok (.aload_n 0, 1) := by decide +kernel
theorem dX9_lookWide_84 : decode cX9_lookWide 84 = .ok (.getfield 13, 3) := by decide +kernel
theorem dX9_lookWide_87 : decode cX9_lookWide 87 = .ok (.iload_n 1, 1) := by decide +kernel
theorem dX9_lookWide_88 : decode cX9_lookWide 88 = .ok (.iaload, 1) := by decide +kernel
theorem dX9_lookWide_89 : decode cX9_lookWide 89 = .ok (.invokevirtual 351, 3) := by decide +kernel
theorem dX9_lookWide_92 : decode cX9_lookWide 92 = .ok (.aload_n 0, 1) := by decide +kernel
theorem dX9_lookWide_93 : decode cX9_lookWide 93 = .ok (.getfield 106, 3) := by decide +kernel
theorem dX9_lookWide_96 : decode cX9_lookWide 96 = .ok (.aload_n 0, 1) := by decide +kernel
theorem dX9_lookWide_97 : decode cX9_lookWide 97 = .ok (.getfield 13, 3) := by decide +kernel
theorem dX9_lookWide_100 : decode cX9_lookWide 100 = .ok (.iload_n 1, 1) := by decide +kernel
theorem dX9_lookWide_101 : decode cX9_lookWide 101 = .ok (.iaload, 1) := by decide +kernel
theorem dX9_lookWide_102 : decode cX9_lookWide 102 = .ok (.iconst 4, 1) := by decide +kernel
theorem dX9_lookWide_103 : decode cX9_lookWide 103 = .ok (.iastore, 1) := by decide +kernel
theorem dX9_lookWide_104 : decode cX9_lookWide 104 = .ok (.aload_n 0, 1) := by decide +kernel
theorem dX9_lookWide_105 : decode cX9_lookWide 105 = .ok (.getfield 115, 3) := by decide +kernel
theorem dX9_lookWide_108 : decode cX9_lookWide 108 = .ok (.aload_n 0, 1) := by decide +kernel
theorem dX9_lookWide_109 : decode cX9_lookWide 109 = .ok (.getfield 13, 3) := by decide +kernel
theorem dX9_lookWide_112 : decode cX9_lookWide 112 = .ok (.iload_n 1, 1) := by decide +kernel
theorem dX9_lookWide_113 : decode cX9_lookWide 113 = .ok (.iaload, 1) := by decide +kernel
theorem dX9_lookWide_114 : decode cX9_lookWide 114 = .ok (.aload_n 0, 1) := by decide +kernel
theorem dX9_lookWide_115 : decode cX9_lookWide 115 = .ok (.getfield 22, 3) := by decide +kernel
theorem dX9_lookWide_118 : decode cX9_lookWide 118 = .ok (.iload_n 1, 1) := by decide +kernel
theorem dX9_lookWide_119 : decode cX9_lookWide 119 = .ok (.iaload, 1) := by decide +kernel
theorem dX9_lookWide_120 : decode cX9_lookWide 120 = .ok (.iastore, 1) := by decide +kernel
theorem dX9_lookWide_121 : decode cX9_lookWide 121 = .ok (.goto 40, 3) := by decide +kernel
theorem dX9_lookWide_124 : decode cX9_lookWide 124 = .ok (.aload_n 0, 1) := by decide +kernel
theorem dX9_lookWide_125 : decode cX9_lookWide 125 = .ok (.getfield 22, 3) := by decide +kernel
theorem dX9_lookWide_128 : decode cX9_lookWide 128 = .ok (.iload_n 1, 1) := by decide +kernel
theorem dX9_lookWide_129 : decode cX9_lookWide 129 = .ok (.iaload, 1) := by decide +kernel
theorem dX9_lookWide_130 : decode cX9_lookWide 130 = .ok (.i2l, 1) := by decide +kernel
theorem dX9_lookWide_131 : decode cX9_lookWide 131 = .ok (.ldc2_w 192, 3) := by decide +kernel
theorem dX9_lookWide_134 : decode cX9_lookWide 134 = .ok (.land, 1) := by decide +kernel
theorem dX9_lookWide_135 : decode cX9_lookWide 135 = .ok (.aload_n 0, 1) := by decide +kernel
theorem dX9_lookWide_136 : decode cX9_lookWide 136 = .ok (.getfield 22, 3) := by decide +kernel
theorem dX9_lookWide_139 : decode cX9_lookWide 139 = .ok (.iload_n 1, 1) := by decide +kernel
theorem dX9_lookWide_140 : decode cX9_lookWide 140 = .ok (.iconst 1, 1) := by decide +kernel
theorem dX9_lookWide_141 : decode cX9_lookWide 141 = .ok (.iadd, 1) := by decide +kernel
theorem dX9_lookWide_142 : decode cX9_lookWide 142 = .ok (.iaload, 1) := by decide +kernel
theorem dX9_lookWide_143 : decode cX9_lookWide 143 = .ok (.i2l, 1) := by decide +kernel
theorem dX9_lookWide_144 : decode cX9_lookWide 144 = .ok (.bipush 32, 2) := by decide +kernel
theorem dX9_lookWide_146 : decode cX9_lookWide 146 = .ok (.lshl, 1) := by decide +kernel
theorem dX9_lookWide_147 : decode cX9_lookWide 147 = .ok (.lor, 1) := by decide +kernel
theorem dX9_lookWide_148 : decode cX9_lookWide 148 = .ok (.lstore_n 3, 1) := by decide +kernel
theorem dX9_lookWide_149 : decode cX9_lookWide 149 = .ok (.aload_n 0, 1) := by decide +kernel
theorem dX9_lookWide_150 : decode cX9_lookWide 150 = .ok (.aload_n 0, 1) := by decide +kernel
theorem dX9_lookWide_151 : decode cX9_lookWide 151 = .ok (.getfield 13, 3) := by decide +kernel
theorem dX9_lookWide_154 : decode cX9_lookWide 154 = .ok (.iload_n 1, 1) := by decide +kernel
theorem dX9_lookWide_155 : decode cX9_lookWide 155 = .ok (.iaload, 1) := by decide +kernel
theorem dX9_lookWide_156 : decode cX9_lookWide 156 = .ok (.lload_n 3, 1) := by decide +kernel
theorem dX9_lookWide_157 : decode cX9_lookWide 157 = .ok (.lload_n 3, 1) := by decide +kernel
theorem dX9_lookWide_158 : decode cX9_lookWide 158 = .ok (.invokevirtual 393, 3) := by decide +kernel
theorem dX9_lookWide_161 : decode cX9_lookWide 161 = .ok (.aload_n 0, 1) := by decide +kernel
theorem dX9_lookWide_162 : decode cX9_lookWide 162 = .ok (.iconst 0, 1) := by decide +kernel
theorem dX9_lookWide_163 : decode cX9_lookWide 163 = .ok (.iload_n 1, 1) := by decide +kernel
theorem dX9_lookWide_164 : decode cX9_lookWide 164 = .ok (.iconst 2, 1) := by decide +kernel
theorem dX9_lookWide_165 : decode cX9_lookWide 165 = .ok (.iadd, 1) := by decide +kernel
theorem dX9_lookWide_166 : decode cX9_lookWide 166 = .ok (.invokevirtual 367, 3) := by decide +kernel
theorem dX9_lookWide_169 : decode cX9_lookWide 169 = .ok (.ireturn, 1) := by decide +kernel
theorem dX9_look_0 : decode cX9_look 0 = .ok (.aload_n 0, 1) := by decide +kernel
theorem dX9_look_1 : decode cX9_look 1 = .ok (.iload_n 1, 1) := by decide +kernel
theorem dX9_look_2 : decode cX9_look 2 = .ok (.invokevirtual 276, 3) := by decide +kernel
theorem dX9_look_5 : decode cX9_look 5 = .ok (.tableswitch 305 0 10 #[59, 61, 74, 80, 118, 134, 153, 167, 181, 218, 274], 59) := by decide +kernel
theorem dX9_look_64 : decode cX9_look 64 = .ok (.iconst 1, 1) := by decide +kernel
theorem dX9_look_65 : decode cX9_look 65 = .ok (.ireturn, 1) := by decide +kernel
theorem dX9_look_66 : decode cX9_look 66 = .ok (.aload_n 0, 1) := by decide +kernel
theorem dX9_look_67 : decode cX9_look 67 = .ok (.aload_n 0, 1) := by decide +kernel
theorem dX9_look_68 : decode cX9_look 68 = .ok (.iload_n 1, 1) := by decide +kernel
theorem dX9_look_69 : decode cX9_look 69 = .ok (.invokevirtual 364, 3) := by decide +kernel
theorem dX9_look_72 : decode cX9_look 72 = .ok (.iload_n 1, 1) := by decide +kernel
theorem dX9_look_73 : decode cX9_look 73 = .ok (.iconst 1, 1) := by decide +kernel
theorem dX9_look_74 : decode cX9_look 74 = .ok (.iadd, 1) := by decide +kernel
theorem dX9_look_75 : decode cX9_look 75 = .ok (.invokevirtual 367, 3) := by decide +kernel
theorem dX9_look_78 : decode cX9_look 78 = .ok (.ireturn, 1) := by decide +kernel
theorem dX9_look_79 : decode cX9_look 79 = .ok (.aload_n 0, 1) := by decide +kernel
theorem dX9_look_80 : decode cX9_look 80 = .ok (.iload_n 1, 1) := by decide +kernel
theorem dX9_look_81 : decode cX9_look 81 = .ok (.invokevirtual 371, 3) := by decide +kernel
theorem dX9_look_84 : decode cX9_look 84 = .ok (.ireturn, 1) := by decide +kernel
theorem dX9_look_85 : decode cX9_look 85 = .ok (.aload_n 0, 1) := by decide +kernel
theorem dX9_look_86 : decode cX9_look 86 = .ok (.iconst 0, 1) := by decide +kernel
theorem dX9_look_87 : decode cX9_look 87 = .ok (.iload_n 1, 1) := by decide +kernel
theorem dX9_look_88 : decode cX9_look 88 = .ok (.iconst 1, 1) := by decide +kernel
theorem dX9_look_89 : decode cX9_look 89 = .ok (.iadd, 1) := by decide +kernel
theorem dX9_look_90 : decode cX9_look 90 = .ok (.aload_n 0, 1) := by decide +kernel
theorem dX9_look_91 : decode cX9_look 91 = .ok (.getfield 7, 3) := by decide +kernel
theorem dX9_look_94 : decode cX9_look 94 = .ok (.iload_n 1, 1) := by decide +kernel
theorem dX9_look_95 : decode cX9_look 95 = .ok (.iaload, 1) := by decide +kernel
theorem dX9_look_96 : decode cX9_look 96 = .ok (.bipush 7, 2) := by decide +kernel
theorem dX9_look_98 : decode cX9_look 98 = .ok (.iand, 1) := by decide +kernel
theorem dX9_look_99 : decode cX9_look 99 = .ok (.iconst 5, 1) := by decide +kernel
theorem dX9_look_100 : decode cX9_look 100 = .ok (.if_icmp .ne 12, 3) := by decide +kernel
theorem dX9_look_103 : decode cX9_look 103 = .ok (.aload_n 0, 1) := by decide +kernel
theorem dX9_look_104 : decode cX9_look 104 = .ok (.getfield 19, 3) := by decide +kernel
theorem dX9_look_107 : decode cX9_look 107 = .ok (.iload_n 1, 1) := by decide +kernel
theorem dX9_look_108 : decode cX9_look 108 = .ok (.iaload, 1) := by decide +kernel
theorem dX9_look_109 : decode cX9_look 109 = .ok (.goto 9, 3) := by decide +kernel
theorem dX9_look_112 : decode cX9_look 112 = .ok (.aload_n 0, 1) := by decide +kernel
theorem dX9_look_113 : decode cX9_look 113 = .ok (.getfield 22, 3) := by decide +kernel
theorem dX9_look_116 : decode cX9_look 116 = .ok (.iload_n 1, 1) := by decide +kernel
theorem dX9_look_117 : decode cX9_look 117 = .ok (.iaload, 1) := by decide +kernel
theorem dX9_look_118 : decode cX9_look 118 = .ok (.iadd, 1) := by decide +kernel
theorem dX9_look_119 : decode cX9_look 119 = .ok (.invokevirtual 367, 3) := by decide +kernel
theorem dX9_look_122 : decode cX9_look 122 = .ok (.ireturn, 1) := by decide +kernel
theorem dX9_look_123 : decode cX9_look 123 = .ok (.aload_n 0, 1) := by decide +kernel
theorem dX9_look_124 : decode cX9_look 124 = .ok (.getfield 106, 3) := by decide +kernel
theorem dX9_look_127 : decode cX9_look 127 = .ok (.iconst 0, 1) := by decide +kernel
theorem dX9_look_128 : decode cX9_look 128 = .ok (.iaload, 1) := by decide +kernel
theorem dX9_look_129 : decode cX9_look 129 = .ok (.iconst 1, 1) := by decide +kernel
theorem dX9_look_130 : decode cX9_look 130 = .ok (.if_icmp .ne 7, 3) := by decide +kernel
theorem dX9_look_133 : decode cX9_look 133 = .ok (.iconst 0, 1) := by decide +kernel
theorem dX9_look_134 : decode cX9_look 134 = .ok (.goto 4, 3) := by decide +kernel
theorem dX9_look_137 : decode cX9_look 137 = .ok (.iconst 5, 1) := by decide +kernel
theorem dX9_look_138 : decode cX9_look 138 = .ok (.ireturn, 1) := by decide +kernel
theorem dX9_look_139 : decode cX9_look 139 = .ok (.aload_n 0, 1) := by decide +kernel
theorem dX9_look_140 : decode cX9_look 140 = .ok (.aload_n 0, 1) := by decide +kernel
theorem dX9_look_141 : decode cX9_look 141 = .ok (.iload_n 1, 1) := by decide +kernel
theorem dX9_look_142 : decode cX9_look 142 = .ok (.aload_n 0, 1) := by decide +kernel
theorem dX9_look_143 : decode cX9_look 143 = .ok (.getfield 22, 3) := by decide +kernel
theorem dX9_look_146 : decode cX9_look 146 = .ok (.iload_n 1, 1) := by decide +kernel
theorem dX9_look_147 : decode cX9_look 147 = .ok (.iaload, 1) := by decide +kernel
theorem dX9_look_148 : decode cX9_look 148 = .ok (.invokevirtual 374, 3) := by decide +kernel
theorem dX9_look_151 : decode cX9_look 151 = .ok (.iload_n 1, 1) := by decide +kernel
theorem dX9_look_152 : decode cX9_look 152 = .ok (.iconst 1, 1) := by decide +kernel
theorem dX9_look_153 : decode cX9_look 153 = .ok (.iadd, 1) := by decide +kernel
theorem dX9_look_154 : decode cX9_look 154 = .ok (.invokevirtual 367, 3) := by decide +kernel
theorem dX9_look_157 : decode cX9_look 157 = .ok (.ireturn, 1) := by decide +kernel
theorem dX9_look_158 : decode cX9_look 158 = .ok (.aload_n 0, 1) := by decide +kernel
theorem dX9_look_159 : decode cX9_look 159 = .ok (.aload_n 0, 1) := by decide +kernel
theorem dX9_look_160 : decode cX9_look 160 = .ok (.iload_n 1, 1) := by decide +kernel
theorem dX9_look_161 : decode cX9_look 161 = .ok (.iconst 0, 1) := by decide +kernel
theorem dX9_look_162 : decode cX9_look 162 = .ok (.invokevirtual 377, 3) := by decide +kernel
theorem dX9_look_165 : decode cX9_look 165 = .ok (.iload_n 1, 1) := by decide +kernel
theorem dX9_look_166 : decode cX9_look 166 = .ok (.iconst 1, 1) := by decide +kernel
theorem dX9_look_167 : decode cX9_look 167 = .ok (.iadd, 1) := by decide +kernel
theorem dX9_look_168 : decode cX9_look 168 = .ok (.invokevirtual 367, 3) := by decide +kernel
theorem dX9_look_171 : decode cX9_look 171 = .ok (.ireturn, 1) := by decide +kernel
theorem dX9_look_172 : decode cX9_look 172 = .ok (.aload_n 0, 1) := by decide +kernel
theorem dX9_look_173 : decode cX9_look 173 = .ok (.aload_n 0, 1) := by decide +kernel
theorem dX9_look_174 : decode cX9_look 174 = .ok (.iload_n 1, 1) := by decide +kernel
theorem dX9_look_175 : decode cX9_look 175 = .ok (.iconst 1, 1) := by decide +kernel
theorem dX9_look_176 : decode cX9_look 176 = .ok (.invokevirtual 377, 3) := by decide +kernel
theorem dX9_look_179 : decode cX9_look 179 = .ok (.iload_n 1, 1) := by decide +kernel
theorem dX9_look_180 : decode cX9_look 180 = .ok (.iconst 1, 1) := by decide +kernel
theorem dX9_look_181 : decode cX9_look 181 = .ok (.iadd, 1) := by decide +kernel
theorem dX9_look_182 : decode cX9_look 182 = .ok (.invokevirtual 367, 3) := by decide +kernel
theorem dX9_look_185 : decode cX9_look 185 = .ok (.ireturn, 1) := by decide +kernel
theorem dX9_look_186 : decode cX9_look 186 = .ok (.aload_n 0, 1) := by decide +kernel
theorem dX9_look_187 : decode cX9_look 187 = .ok (.aload_n 0, 1) := by decide +kernel
theorem dX9_look_188 : decode cX9_look 188 = .ok (.getfield 106, 3) := by decide +kernel
theorem dX9_look_191 : decode cX9_look 191 = .ok (.aload_n 0, 1) := by decide +kernel
theorem dX9_look_192 : decode cX9_look 192 = .ok (.getfield 13, 3) := by decide +kernel
theorem dX9_look_195 : decode cX9_look 195 = .ok (.iload_n 1, 1) := by decide +kernel
theorem dX9_look_196 : decode cX9_look 196 = .ok (.iaload, 1) := by decide +kernel
theorem dX9_look_197 : decode cX9_look 197 = .ok (.iaload, 1) := by decide +kernel
theorem dX9_look_198 : decode cX9_look 198 = .ok (.ifCond .ne 7, 3) := by decide +kernel
theorem dX9_look_201 : decode cX9_look 201 = .ok (.iconst 2, 1) := by decide +kernel
theorem dX9_look_202 : decode cX9_look 202 = .ok (.goto 14, 3) := by decide +kernel
theorem dX9_look_205 : decode cX9_look 205 = .ok (.aload_n 0, 1) := by decide +kernel
theorem dX9_look_206 : decode cX9_look 206 = .ok (.iload_n 1, 1) := by decide +kernel
theorem dX9_look_207 : decode cX9_look 207 = .ok (.aload_n 0, 1) := by decide +kernel
theorem dX9_look_208 : decode cX9_look 208 = .ok (.iload_n 1, 1) := by decide +kernel
theorem dX9_look_209 : decode cX9_look 209 = .ok (.invokevirtual 273, 3) := by decide +kernel
theorem dX9_look_212 : decode cX9_look 212 = .ok (.iconst (-1), 1) := by decide +kernel
theorem dX9_look_213 : decode cX9_look 213 = .ok (.invokevirtual 380, 3) := by decide +kernel
theorem dX9_look_216 : decode cX9_look 216 = .ok (.iload_n 1, 1) := by decide +kernel
theorem dX9_look_217 : decode cX9_look 217 = .ok (.iconst 1, 1) := by decide +kernel
theorem dX9_look_218 : decode cX9_look 218 = .ok (.iadd, 1) := by decide +kernel
theorem dX9_look_219 : decode cX9_look 219 = .ok (.invokevirtual 367, 3) := by decide +kernel
theorem dX9_look_222 : decode cX9_look 222 = .ok (.ireturn, 1) := by decide +kernel
theorem dX9_look_223 : decode cX9_look 223 = .ok (.aload_n 0, 1) := by decide +kernel
theorem dX9_look_224 : decode cX9_look 224 = .ok (.aload_n 0, 1) := by decide +kernel
theorem dX9_look_225 : decode cX9_look 225 = .ok (.getfield 106, 3) := by decide +kernel
theorem dX9_look_228 : decode cX9_look 228 = .ok (.aload_n 0, 1) := by decide +kernel
theorem dX9_look_229 : decode cX9_look 229 = .ok (.getfield 13, 3) := by decide +kernel
theorem dX9_look_232 : decode cX9_look 232 = .ok (.iload_n 1, 1) := by decide +kernel
theorem dX9_look_233 : decode cX9_look 233 = .ok (.iaload, 1) := by decide +kernel
theorem dX9_look_234 : decode cX9_look 234 = .ok (.iaload, 1) := by decide +kernel
theorem dX9_look_235 : decode cX9_look 235 = .ok (.ifCond .eq 17, 3) := by decide +kernel
theorem dX9_look_238 : decode cX9_look 238 = .ok (.aload_n 0, 1) := by decide +kernel
theorem dX9_look_239 : decode cX9_look 239 = .ok (.getfield 106, 3) := by decide +kernel
theorem dX9_look_242 : decode cX9_look 242 = .ok (.aload_n 0, 1) := by decide +kernel
theorem dX9_look_243 : decode cX9_look 243 = .ok (.getfield 16, 3) := by decide +kernel
theorem dX9_look_246 : decode cX9_look 246 = .ok (.iload_n 1, 1) := by decide +kernel
theorem dX9_look_247 : decode cX9_look 247 = .ok (.iaload, 1) := by decide +kernel
theorem dX9_look_248 : decode cX9_look 248 = .ok (.iaload, 1) := by decide +kernel
theorem dX9_look_249 : decode cX9_look 249 = .ok (.ifCond .ne 7, 3) := by decide +kernel
theorem dX9_look_252 : decode cX9_look 252 = .ok (.iconst 2, 1) := by decide +kernel
theorem dX9_look_253 : decode cX9_look 253 = .ok (.goto 19, 3) := by decide +kernel
theorem dX9_look_256 : decode cX9_look 256 = .ok (.aload_n 0, 1) := by decide +kernel
theorem dX9_look_257 : decode cX9_look 257 = .ok (.iload_n 1, 1) := by decide +kernel
theorem dX9_look_258 : decode cX9_look 258 = .ok (.aload_n 0, 1) := by decide +kernel
theorem dX9_look_259 : decode cX9_look 259 = .ok (.iload_n 1, 1) := by decide +kernel
theorem dX9_look_260 : decode cX9_look 260 = .ok (.invokevirtual 273, 3) := by decide +kernel
theorem dX9_look_263 : decode cX9_look 263 = .ok (.aload_n 0, 1) := by decide +kernel
theorem dX9_look_264 : decode cX9_look 264 = .ok (.getfield 16, 3) := by decide +kernel
theorem dX9_look_267 : decode cX9_look 267 = .ok (.iload_n 1, 1) := by decide +kernel
theorem dX9_look_268 : decode cX9_look 268 = .ok (.iaload, 1) := by decide +kernel
theorem dX9_look_269 : decode cX9_look 269 = .ok (.invokevirtual 380, 3) := by decide +kernel
theorem dX9_look_272 : decode cX9_look 272 = .ok (.iload_n 1, 1) := by decide +kernel
theorem dX9_look_273 : decode cX9_look 273 = .ok (.iconst 1, 1) := by decide +kernel
theorem dX9_look_274 : decode cX9_look 274 = .ok (.iadd, 1) := by decide +kernel
theorem dX9_look_275 : decode cX9_look 275 = .ok (.invokevirtual 367, 3) := by decide +kernel
theorem dX9_look_278 : decode cX9_look 278 = .ok (.ireturn, 1) := by decide +kernel
theorem dX9_look_279 : decode cX9_look 279 = .ok (.aload_n 0, 1) := by decide +kernel
theorem dX9_look_280 : decode cX9_look 280 = .ok (.aload_n 0, 1) := by decide +kernel
theorem dX9_look_281 : decode cX9_look 281 = .ok (.iload_n 1, 1) := by decide +kernel
theorem dX9_look_282 : decode cX9_look 282 = .ok (.aload_n 0, 1) := by decide +kernel
theorem dX9_look_283 : decode cX9_look 283 = .ok (.getfield 7, 3) := by decide +kernel
theorem dX9_look_286 : decode cX9_look 286 = .ok (.iload_n 1, 1) := by decide +kernel
theorem dX9_look_287 : decode cX9_look 287 = .ok (.iaload, 1) := by decide +kernel
theorem dX9_look_288 : decode cX9_look 288 = .ok (.sipush 219, 3) := by decide +kernel
theorem dX9_look_291 : decode cX9_look 291 = .ok (.if_icmp .ne 8, 3) := by decide +kernel
theorem dX9_look_294 : decode cX9_look 294 = .ok (.bipush 8, 2) := by decide +kernel
theorem dX9_look_296 : decode cX9_look 296 = .ok (.goto 4, 3) := by decide +kernel
theorem dX9_look_299 : decode cX9_look 299 = .ok (.iconst 4, 1) := by decide +kernel
theorem dX9_look_300 : decode cX9_look 300 = .ok (.invokevirtual 384, 3) := by decide +kernel
theorem dX9_look_303 : decode cX9_look 303 = .ok (.iload_n 1, 1) := by decide +kernel
theorem dX9_look_304 : decode cX9_look 304 = .ok (.iconst 1, 1) := by decide +kernel
theorem dX9_look_305 : decode cX9_look 305 = .ok (.iadd, 1) := by decide +kernel
theorem dX9_look_306 : decode cX9_look 306 = .ok (.invokevirtual 367, 3) := by decide +kernel
theorem dX9_look_309 : decode cX9_look 309 = .ok (.ireturn, 1) := by decide +kernel
theorem dX9_look_310 : decode cX9_look 310 = .ok (.aload_n 0, 1) := by decide +kernel
theorem dX9_look_311 : decode cX9_look 311 = .ok (.iload_n 1, 1) := by decide +kernel
theorem dX9_look_312 : decode cX9_look 312 = .ok (.invokevirtual 387, 3) := by decide +kernel
theorem dX9_look_315 : decode cX9_look 315 = .ok (.ireturn, 1) := by decide +kernel
theorem dX9_judge_0 : decode cX9_judge 0 = .ok (.aload_n 0, 1) := by decide +kernel
theorem dX9_judge_1 : decode cX9_judge 1 = .ok (.iconst (-1), 1) := by decide +kernel
theorem dX9_judge_2 : decode cX9_judge 2 = .ok (.putfield 124, 3) := by decide +kernel
theorem dX9_judge_5 : decode cX9_judge 5 = .ok (.iconst 0, 1) := by decide +kernel
theorem dX9_judge_6 : decode cX9_judge 6 = .ok (.istore_n 1, 1) := by decide +kernel
theorem dX9_judge_7 : decode cX9_judge 7 = .ok (.iload_n 1, 1) := by decide +kernel
theorem dX9_judge_8 : decode cX9_judge 8 = .ok (.sipush 200, 3) := by decide +kernel
theorem dX9_judge_11 : decode cX9_judge 11 = .ok (.if_icmp .ge 23, 3) := by decide +kernel
theorem dX9_judge_14 : decode cX9_judge 14 = .ok (.aload_n 0, 1) := by decide +kernel
theorem dX9_judge_15 : decode cX9_judge 15 = .ok (.getfield 66, 3) := by decide +kernel
theorem dX9_judge_18 : decode cX9_judge 18 = .ok (.iload_n 1, 1) := by decide +kernel
theorem dX9_judge_19 : decode cX9_judge 19 = .ok (.iconst 0, 1) := by decide +kernel
theorem dX9_judge_20 : decode cX9_judge 20 = .ok (.bastore, 1) := by decide +kernel
theorem dX9_judge_21 : decode cX9_judge 21 = .ok (.aload_n 0, 1) := by decide +kernel
theorem dX9_judge_22 : decode cX9_judge 22 = .ok (.getfield 69, 3) := by decide +kernel
theorem dX9_judge_25 : decode cX9_judge 25 = .ok (.iload_n 1, 1) := by decide +kernel
theorem dX9_judge_26 : decode cX9_judge 26 = .ok (.iconst 0, 1) := by decide +kernel
theorem dX9_judge_27 : decode cX9_judge 27 = .ok (.bastore, 1) := by decide +kernel
theorem dX9_judge_28 : decode cX9_judge 28 = .ok (.iinc 1 1, 3) := by decide +kernel
theorem dX9_judge_31 : decode cX9_judge 31 = .ok (.goto (-24), 3) := by decide +kernel
theorem dX9_judge_34 : decode cX9_judge 34 = .ok (.aload_n 0, 1) := by decide +kernel
theorem dX9_judge_35 : decode cX9_judge 35 = .ok (.getfield 147, 3) := by decide +kernel
theorem dX9_judge_38 : decode cX9_judge 38 = .ok (.ifCond .ne 11, 3) := by decide +kernel
theorem dX9_judge_41 : decode cX9_judge 41 = .ok (.aload_n 0, 1) := by decide +kernel
theorem dX9_judge_42 : decode cX9_judge 42 = .ok (.iconst 0, 1) := by decide +kernel
theorem dX9_judge_43 : decode cX9_judge 43 = .ok (.putfield 124, 3) := by decide +kernel
theorem dX9_judge_46 : decode cX9_judge 46 = .ok (.bipush 6, 2) := by decide +kernel
theorem dX9_judge_48 : decode cX9_judge 48 = .ok (.ireturn, 1) := by decide +kernel
theorem dX9_judge_49 : decode cX9_judge 49 = .ok (.iconst 0, 1) := by decide +kernel
theorem dX9_judge_50 : decode cX9_judge 50 = .ok (.istore_n 1, 1) := by decide +kernel
theorem dX9_judge_51 : decode cX9_judge 51 = .ok (.iload_n 1, 1) := by decide +kernel
theorem dX9_judge_52 : decode cX9_judge 52 = .ok (.aload_n 0, 1) := by decide +kernel
theorem dX9_judge_53 : decode cX9_judge 53 = .ok (.getfield 147, 3) := by decide +kernel
theorem dX9_judge_56 : decode cX9_judge 56 = .ok (.if_icmp .ge 42, 3) := by decide +kernel
theorem dX9_judge_59 : decode cX9_judge 59 = .ok (.aload_n 0, 1) := by decide +kernel
theorem dX9_judge_60 : decode cX9_judge 60 = .ok (.getfield 69, 3) := by decide +kernel
theorem dX9_judge_63 : decode cX9_judge 63 = .ok (.iload_n 1, 1) := by decide +kernel
theorem dX9_judge_64 : decode cX9_judge 64 = .ok (.iconst 1, 1) := by decide +kernel
theorem dX9_judge_65 : decode cX9_judge 65 = .ok (.iadd, 1) := by decide +kernel
theorem dX9_judge_66 : decode cX9_judge 66 = .ok (.aload_n 0, 1) := by decide +kernel
theorem dX9_judge_67 : decode cX9_judge 67 = .ok (.getfield 7, 3) := by decide +kernel
theorem dX9_judge_70 : decode cX9_judge 70 = .ok (.iload_n 1, 1) := by decide +kernel
theorem dX9_judge_71 : decode cX9_judge 71 = .ok (.iaload, 1) := by decide +kernel
theorem dX9_judge_72 : decode cX9_judge 72 = .ok (.bipush 24, 2) := by decide +kernel
theorem dX9_judge_74 : decode cX9_judge 74 = .ok (.if_icmp .ne 16, 3) := by decide +kernel
theorem dX9_judge_77 : decode cX9_judge 77 = .ok (.aload_n 0, 1) := by decide +kernel
theorem dX9_judge_78 : decode cX9_judge 78 = .ok (.getfield 69, 3) := by decide +kernel
theorem dX9_judge_81 : decode cX9_judge 81 = .ok (.iload_n 1, 1) := by decide +kernel
theorem dX9_judge_82 : decode cX9_judge 82 = .ok (.baload, 1) := by decide +kernel
theorem dX9_judge_83 : decode cX9_judge 83 = .ok (.ifCond .ne 7, 3) := by decide +kernel
theorem dX9_judge_86 : decode cX9_judge 86 = .ok (.iconst 1, 1) := by decide +kernel
theorem dX9_judge_87 : decode cX9_judge 87 = .ok (.goto 4, 3) := by decide +kernel
theorem dX9_judge_90 : decode cX9_judge 90 = .ok (.iconst 0, 1) := by decide +kernel
theorem dX9_judge_91 : decode cX9_judge 91 = .ok (.bastore, 1) := by decide +kernel
theorem dX9_judge_92 : decode cX9_judge 92 = .ok (.iinc 1 1, 3) := by decide +kernel
theorem dX9_judge_95 : decode cX9_judge 95 = .ok (.goto (-44), 3) := by decide +kernel
theorem dX9_judge_98 : decode cX9_judge 98 = .ok (.iconst 0, 1) := by decide +kernel
theorem dX9_judge_99 : decode cX9_judge 99 = .ok (.istore_n 1, 1) := by decide +kernel
theorem dX9_judge_100 : decode cX9_judge 100 = .ok (.iload_n 1, 1) := by decide +kernel
theorem dX9_judge_101 : decode cX9_judge 101 = .ok (.bipush 75, 2) := by decide +kernel
theorem dX9_judge_103 : decode cX9_judge 103 = .ok (.if_icmp .ge 14, 3) := by decide +kernel
theorem dX9_judge_106 : decode cX9_judge 106 = .ok (.aload_n 0, 1) := by decide +kernel
theorem dX9_judge_107 : decode cX9_judge 107 = .ok (.iload_n 1, 1) := by decide +kernel
theorem dX9_judge_108 : decode cX9_judge 108 = .ok (.invokevirtual 351, 3) := by decide +kernel
theorem dX9_judge_111 : decode cX9_judge 111 = .ok (.iinc 1 1, 3) := by decide +kernel
theorem dX9_judge_114 : decode cX9_judge 114 = .ok (.goto (-14), 3) := by decide +kernel
theorem dX9_judge_117 : decode cX9_judge 117 = .ok (.iconst 0, 1) := by decide +kernel
theorem dX9_judge_118 : decode cX9_judge 118 = .ok (.istore_n 1, 1) := by decide +kernel
theorem dX9_judge_119 : decode cX9_judge 119 = .ok (.iload_n 1, 1) := by decide +kernel
theorem dX9_judge_120 : decode cX9_judge 120 = .ok (.sipush 512, 3) := by decide +kernel
theorem dX9_judge_123 : decode cX9_judge 123 = .ok (.if_icmp .ge 16, 3) := by decide +kernel
theorem dX9_judge_126 : decode cX9_judge 126 = .ok (.aload_n 0, 1) := by decide +kernel
theorem dX9_judge_127 : decode cX9_judge 127 = .ok (.getfield 121, 3) := by decide +kernel
theorem dX9_judge_130 : decode cX9_judge 130 = .ok (.iload_n 1, 1) := by decide +kernel
theorem dX9_judge_131 : decode cX9_judge 131 = .ok (.iconst 0, 1) := by decide +kernel
theorem dX9_judge_132 : decode cX9_judge 132 = .ok (.bastore, 1) := by decide +kernel
theorem dX9_judge_133 : decode cX9_judge 133 = .ok (.iinc 1 1, 3) := by decide +kernel
theorem dX9_judge_136 : decode cX9_judge 136 = .ok (.goto (-17), 3) := by decide +kernel
theorem dX9_judge_139 : decode cX9_judge 139 = .ok (.aload_n 0, 1) := by decide +kernel
theorem dX9_judge_140 : decode cX9_judge 140 = .ok (.getfield 106, 3) := by decide +kernel
theorem dX9_judge_143 : decode cX9_judge 143 = .ok (.iconst 1, 1) := by decide +kernel
theorem dX9_judge_144 : decode cX9_judge 144 = .ok (.iconst 2, 1) := by decide +kernel
theorem dX9_judge_145 : decode cX9_judge 145 = .ok (.iastore, 1) := by decide +kernel
theorem dX9_judge_146 : decode cX9_judge 146 = .ok (.aload_n 0, 1) := by decide +kernel
theorem dX9_judge_147 : decode cX9_judge 147 = .ok (.getfield 106, 3) := by decide +kernel
theorem dX9_judge_150 : decode cX9_judge 150 = .ok (.bipush 10, 2) := by decide +kernel
theorem dX9_judge_152 : decode cX9_judge 152 = .ok (.iconst 3, 1) := by decide +kernel
theorem dX9_judge_153 : decode cX9_judge 153 = .ok (.iastore, 1) := by decide +kernel
theorem dX9_judge_154 : decode cX9_judge 154 = .ok (.aload_n 0, 1) := by decide +kernel
theorem dX9_judge_155 : decode cX9_judge 155 = .ok (.iconst 0, 1) := by decide +kernel
theorem dX9_judge_156 : decode cX9_judge 156 = .ok (.invokevirtual 355, 3) := by decide +kernel
theorem dX9_judge_159 : decode cX9_judge 159 = .ok (.iconst 0, 1) := by decide +kernel
theorem dX9_judge_160 : decode cX9_judge 160 = .ok (.istore_n 1, 1) := by decide +kernel
theorem dX9_judge_161 : decode cX9_judge 161 = .ok (.iload_n 1, 1) := by decide +kernel
theorem dX9_judge_162 : decode cX9_judge 162 = .ok (.aload_n 0, 1) := by decide +kernel
theorem dX9_judge_163 : decode cX9_judge 163 = .ok (.getfield 147, 3) := by decide +kernel
theorem dX9_judge_166 : decode cX9_judge 166 = .ok (.if_icmp .ge 45, 3) := by decide +kernel
theorem dX9_judge_169 : decode cX9_judge 169 = .ok (.aload_n 0, 1) := by decide +kernel
theorem dX9_judge_170 : decode cX9_judge 170 = .ok (.getfield 66, 3) := by decide +kernel
theorem dX9_judge_173 : decode cX9_judge 173 = .ok (.iload_n 1, 1) := by decide +kernel
theorem dX9_judge_174 : decode cX9_judge 174 = .ok (.baload, 1) := by decide +kernel
theorem dX9_judge_175 : decode cX9_judge 175 = .ok (.ifCond .eq 30, 3) := by decide +kernel
theorem dX9_judge_178 : decode cX9_judge 178 = .ok (.aload_n 0, 1) := by decide +kernel
theorem dX9_judge_179 : decode cX9_judge 179 = .ok (.iload_n 1, 1) := by decide +kernel
theorem dX9_judge_180 : decode cX9_judge 180 = .ok (.putfield 348, 3) := by decide +kernel
theorem dX9_judge_183 : decode cX9_judge 183 = .ok (.aload_n 0, 1) := by decide +kernel
theorem dX9_judge_184 : decode cX9_judge 184 = .ok (.iload_n 1, 1) := by decide +kernel
theorem dX9_judge_185 : decode cX9_judge 185 = .ok (.invokevirtual 358, 3) := by decide +kernel
theorem dX9_judge_188 : decode cX9_judge 188 = .ok (.aload_n 0, 1) := by decide +kernel
theorem dX9_judge_189 : decode cX9_judge 189 = .ok (.iload_n 1, 1) := by decide +kernel
theorem dX9_judge_190 : decode cX9_judge 190 = .ok (.invokevirtual 361, 3) := by decide +kernel
theorem dX9_judge_193 : decode cX9_judge 193 = .ok (.istore_n 2, 1) := by decide +kernel
theorem dX9_judge_194 : decode cX9_judge 194 = .ok (.iload_n 2, 1) := by decide +kernel
theorem dX9_judge_195 : decode cX9_judge 195 = .ok (.ifCond .le 10, 3) := by decide +kernel
theorem dX9_judge_198 : decode cX9_judge 198 = .ok (.aload_n 0, 1) := by decide +kernel
theorem dX9_judge_199 : decode cX9_judge 199 = .ok (.iload_n 1, 1) := by decide +kernel
theorem dX9_judge_200 : decode cX9_judge 200 = .ok (.putfield 124, 3) := by decide +kernel
theorem dX9_judge_203 : decode cX9_judge 203 = .ok (.iload_n 2, 1) := by decide +kernel
theorem dX9_judge_204 : decode cX9_judge 204 = .ok (.ireturn, 1) := by decide +kernel
theorem dX9_judge_205 : decode cX9_judge 205 = .ok (.iinc 1 1, 3) := by decide +kernel
theorem dX9_judge_208 : decode cX9_judge 208 = .ok (.goto (-47), 3) := by decide +kernel
theorem dX9_judge_211 : decode cX9_judge 211 = .ok (.iconst 0, 1) := by decide +kernel
theorem dX9_judge_212 : decode cX9_judge 212 = .ok (.ireturn, 1) := by decide +kernel
theorem dX9_place_0 : decode cX9_place 0 = .ok (.aload_n 0, 1) := by decide +kernel
theorem dX9_place_1 : decode cX9_place 1 = .ok (.getfield 124, 3) := by decide +kernel
theorem dX9_place_4 : decode cX9_place 4 = .ok (.ireturn, 1) := by decide +kernel
-- JudgedCodeModel.lookPut
def f_X9_lookPut_195 (S : sh) (k164 : Nat → Int32 → Int32 → Int32 → dt → Option (Int32 × dt)) (o0 : Nat) (x3 : Int32) (x10 : Int32) (x11 : Int32) (os0 : Nat) (xs1 : Int32) (xs2 : Int32) (D : dt) : Option (Int32 × dt) := ix xs1 (sA S os0) <| nm (pI D os0 xs1.toNatClampNeg (vp_nar .boolean xs2)) fun D67 => nm (x11 + 1) fun y68 => k164 o0 x3 x10 y68 D67
def f_X9_lookPut_164 (S : sh) : Nat → Nat → Int32 → Int32 → Int32 → dt → Option (Int32 × dt)
  | 0, _, _, _, _, _ => none
  | n + 1, o0, x3, x10, x11, D => if (x10 + (8 : Int32)) ≤ x11 then (some ((0 : Int32), D)) else (rq (gR D o0 45) fun o70 => rq (gR D o0 40) fun o74 => ix x3 (sA S o74) <| if (gI D o74 x3.toNatClampNeg) = (1 : Int32) then (f_X9_lookPut_195 S (f_X9_lookPut_164 S n) o0 x3 x10 x11 o70 x11 (1 : Int32) D) else (f_X9_lookPut_195 S (f_X9_lookPut_164 S n) o0 x3 x10 x11 o70 x11 (0 : Int32) D))
def f_X9_lookPut_101 (S : sh) (o0 : Nat) (x1 : Int32) (x2 : Int32) (x3 : Int32) (x4 : Int32) (x5 : Int32) (x6 : Int64) (x8 : Int32) (D : dt) : Option (Int32 × dt) := rq (gR D o0 4) fun o80 => ix x1 (sA S o80) <| cq (f_X9_access S o0 x4 (gI D o80 x1.toNatClampNeg) x2 (1 : Int32) D) fun r86 D87 => if 0 < r86 then (some (r86, D87)) else (if x5 = 0 then (some (r86, D87)) else (nm (x6.toInt32) fun y90 => cq (f_X9_put_ S o0 y90 x2 D87) fun _ D92 => if x8 = 0 then (some ((0 : Int32), D92)) else (cq (f_X9_same S o0 x3 ((11 : Int32) + (y90 / (8 : Int32))) D92) fun _ D95 => f_X9_lookPut_164 S LF o0 x3 y90 y90 D95)))
def f_X9_lookPut_78 (S : sh) (o0 : Nat) (x1 : Int32) (x2 : Int32) (x3 : Int32) (x4 : Int32) (x5 : Int32) (x6 : Int64) (xs0 : Int32) (D : dt) : Option (Int32 × dt) := if x3 < 0 then (f_X9_lookPut_101 S o0 x1 x2 x3 x4 x5 x6 xs0 D) else (rq (gR D o0 40) fun o97 => ix x3 (sA S o97) <| if (gI D o97 x3.toNatClampNeg) = (1 : Int32) then (f_X9_lookPut_101 S o0 x1 x2 x3 x4 x5 x6 xs0 D) else (if xs0 = 0 then (some ((3 : Int32), D)) else (f_X9_lookPut_101 S o0 x1 x2 x3 x4 x5 x6 xs0 D)))
def f_X9_lookPut_77 (S : sh) (o0 : Nat) (x1 : Int32) (x2 : Int32) (x3 : Int32) (x4 : Int32) (x5 : Int32) (x6 : Int64) (D : dt) : Option (Int32 × dt) := f_X9_lookPut_78 S o0 x1 x2 x3 x4 x5 x6 (0 : Int32) D
def f_X9_lookPut_24 (S : sh) (o0 : Nat) (x1 : Int32) (x2 : Int32) (x3 : Int32) (x4 : Int32) (xs0 : Int32) (D : dt) : Option (Int32 × dt) := rq (gR D o0 41) fun o104 => ix x4 (sA S o104) <| rq (gR D o0 4) fun o109 => ix x1 (sA S o109) <| nm (((gL D o104 x4.toNatClampNeg) + ((gI D o109 x1.toNatClampNeg).toInt64)) + (512 : Int64)) fun y114 => if x3 < 0 then (f_X9_lookPut_77 S o0 x1 x2 x3 x4 xs0 y114 D) else (if x2 = (8 : Int32) then (if xs0 = 0 then (f_X9_lookPut_77 S o0 x1 x2 x3 x4 xs0 y114 D) else (if (lg_cmp (y114 &&& (7 : Int64)) (0 : Int64)) = 0 then (f_X9_lookPut_78 S o0 x1 x2 x3 x4 xs0 y114 (1 : Int32) D) else (f_X9_lookPut_77 S o0 x1 x2 x3 x4 xs0 y114 D))) else (f_X9_lookPut_77 S o0 x1 x2 x3 x4 xs0 y114 D))
def f_X9_lookPut (S : sh) (o0 : Nat) (x1 : Int32) (x2 : Int32) (x3 : Int32) (D : dt) : Option (Int32 × dt) := rq (gR D o0 2) fun o119 => ix x1 (sA S o119) <| nm (gI D o119 x1.toNatClampNeg) fun y124 => rq (gR D o0 40) fun o125 => ix y124 (sA S o125) <| if (gI D o125 y124.toNatClampNeg) = (3 : Int32) then (f_X9_lookPut_24 S o0 x1 x2 x3 y124 (1 : Int32) D) else (f_X9_lookPut_24 S o0 x1 x2 x3 y124 (0 : Int32) D)
-- JudgedCodeModel.lookBoth
def f_X9_lookBoth_175 (S : sh) (o0 : Nat) (x1 : Int32) (x2 : Int32) (x4 : Int32) (x5 : Int32) (D : dt) : Option (Int32 × dt) := if x5 = 0 then (rq (gR D o0 5) fun o100 => ix x1 (sA S o100) <| if ((gI D o100 x1.toNatClampNeg) &&& (1 : Int32)) = (1 : Int32) then (pq (f_X9_mostOf x2) fun r107 => cq (f_X9_number S o0 x4 (0 : Int64) r107 D) fun _ D109 => some ((0 : Int32), D109)) else (some ((0 : Int32), D))) else (pq (f_X9_mostOf x2) fun r111 => cq (f_X9_number S o0 (0 : Int32) (0 : Int64) r111 D) fun _ D113 => some ((0 : Int32), D113))
def f_X9_lookBoth_118 (S : sh) (o0 : Nat) (x1 : Int32) (x2 : Int32) (x3 : Int32) (x4 : Int32) (x5 : Int32) (x6 : Int32) (D : dt) : Option (Int32 × dt) := if x6 ≤ 0 then (rq (gR D o0 40) fun o115 => ix x3 (sA S o115) <| if (gI D o115 x3.toNatClampNeg) = (3 : Int32) then (rq (gR D o0 41) fun o121 => ix x3 (sA S o121) <| rq (gR D o0 4) fun o126 => ix x1 (sA S o126) <| nm ((((gL D o121 x3.toNatClampNeg).toInt32) + (gI D o126 x1.toNatClampNeg)) + (512 : Int32)) fun y131 => cq (f_X9_areKnown S o0 y131 x2 D) fun r133 D134 => if r133 = 0 then (some ((4 : Int32), D134)) else (cq (f_X9_put_ S o0 y131 x2 D134) fun _ D137 => f_X9_lookBoth_175 S o0 x1 x2 x4 x5 D137)) else (f_X9_lookBoth_175 S o0 x1 x2 x4 x5 D)) else (some (x6, D))
def f_X9_lookBoth_69 (S : sh) (o0 : Nat) (x1 : Int32) (x2 : Int32) (x3 : Int32) (x4 : Int32) (x5 : Int32) (D : dt) : Option (Int32 × dt) := rq (gR D o0 4) fun o138 => ix x1 (sA S o138) <| cq (f_X9_access S o0 x3 (gI D o138 x1.toNatClampNeg) x2 (1 : Int32) D) fun r144 D145 => if r144 = (3 : Int32) then (some ((3 : Int32), D145)) else (rq (gR D145 o0 40) fun o147 => ix x4 (sA S o147) <| if (gI D145 o147 x4.toNatClampNeg) = (1 : Int32) then (if x5 = 0 then (f_X9_lookBoth_118 S o0 x1 x2 x3 x4 x5 r144 D145) else (rq (gR D145 o0 40) fun o154 => ix (0 : Int32) (sA S o154) <| if (gI D145 o154 (0 : Int32).toNatClampNeg) = (1 : Int32) then (f_X9_lookBoth_118 S o0 x1 x2 x3 x4 x5 r144 D145) else (some ((3 : Int32), D145)))) else (some ((3 : Int32), D145)))
def f_X9_lookBoth_32 (S : sh) (o0 : Nat) (x1 : Int32) (x2 : Int32) (x3 : Int32) (x4 : Int32) (xs0 : Int32) (D : dt) : Option (Int32 × dt) := rq (gR D o0 40) fun o160 => ix x3 (sA S o160) <| if (gI D o160 x3.toNatClampNeg) = 0 then (some ((2 : Int32), D)) else (rq (gR D o0 40) fun o166 => ix x4 (sA S o166) <| if (gI D o166 x4.toNatClampNeg) = 0 then (some ((2 : Int32), D)) else (if xs0 = 0 then (f_X9_lookBoth_69 S o0 x1 x2 x3 x4 xs0 D) else (rq (gR D o0 40) fun o173 => ix (0 : Int32) (sA S o173) <| if (gI D o173 (0 : Int32).toNatClampNeg) = 0 then (some ((2 : Int32), D)) else (f_X9_lookBoth_69 S o0 x1 x2 x3 x4 xs0 D))))
def f_X9_lookBoth (S : sh) (o0 : Nat) (x1 : Int32) (x2 : Int32) (D : dt) : Option (Int32 × dt) := rq (gR D o0 2) fun o179 => ix x1 (sA S o179) <| nm (gI D o179 x1.toNatClampNeg) fun y184 => rq (gR D o0 3) fun o185 => ix x1 (sA S o185) <| nm (gI D o185 x1.toNatClampNeg) fun y190 => rq (gR D o0 5) fun o191 => ix x1 (sA S o191) <| if (gI D o191 x1.toNatClampNeg) = (241 : Int32) then (f_X9_lookBoth_32 S o0 x1 x2 y184 y190 (1 : Int32) D) else (f_X9_lookBoth_32 S o0 x1 x2 y184 y190 (0 : Int32) D)
-- JudgedCodeModel.lookWide
def f_X9_lookWide_161 (S : sh) (o0 : Nat) (x1 : Int32) (D : dt) : Option (Int32 × dt) := cq (f_X9_onward S o0 (0 : Int32) (x1 + (2 : Int32)) D) fun r84 D85 => some (r84, D85)
def f_X9_lookWide_65 (S : sh) (o0 : Nat) (x1 : Int32) (x2 : Int32) (D : dt) : Option (Int32 × dt) := if x2 = 0 then (some ((6 : Int32), D)) else (rq (gR D o0 3) fun o87 => ix x1 (sA S o87) <| if (gI D o87 x1.toNatClampNeg) = (1 : Int32) then (rq (gR D o0 2) fun o111 => ix x1 (sA S o111) <| cq (f_X9_forget S o0 (gI D o111 x1.toNatClampNeg) D) fun _ D117 => rq (gR D117 o0 40) fun o118 => rq (gR D117 o0 2) fun o122 => ix x1 (sA S o122) <| ix (gI D117 o122 x1.toNatClampNeg) (sA S o118) <| nm (pI D117 o118 (gI D117 o122 x1.toNatClampNeg).toNatClampNeg (4 : Int32)) fun D128 => rq (gR D128 o0 43) fun o129 => rq (gR D128 o0 2) fun o133 => ix x1 (sA S o133) <| rq (gR D128 o0 5) fun o138 => ix x1 (sA S o138) <| ix (gI D128 o133 x1.toNatClampNeg) (sA S o129) <| nm (pI D128 o129 (gI D128 o133 x1.toNatClampNeg).toNatClampNeg (gI D128 o138 x1.toNatClampNeg)) fun D144 => f_X9_lookWide_161 S o0 x1 D144) else (rq (gR D o0 5) fun o93 => ix x1 (sA S o93) <| rq (gR D o0 5) fun o98 => ix (x1 + (1 : Int32)) (sA S o98) <| nm ((((gI D o93 x1.toNatClampNeg).toInt64) &&& (4294967295 : Int64)) ||| (j_lshl ((gI D o98 (x1 + (1 : Int32)).toNatClampNeg).toInt64) (32 : Int32))) fun y103 => rq (gR D o0 2) fun o104 => ix x1 (sA S o104) <| cq (f_X9_number S o0 (gI D o104 x1.toNatClampNeg) y103 y103 D) fun _ D110 => f_X9_lookWide_161 S o0 x1 D110))
def f_X9_lookWide_32 (S : sh) (o0 : Nat) (x1 : Int32) (x2 : Int32) (D : dt) : Option (Int32 × dt) := rq (gR D o0 3) fun o145 => ix x1 (sA S o145) <| if (gI D o145 x1.toNatClampNeg) = (1 : Int32) then (rq (gR D o0 5) fun o151 => ix x1 (sA S o151) <| pq (f_X9_in ((gI D o151 x1.toNatClampNeg).toInt64) (0 : Int64) (((gI D o0 9) - (1 : Int32)).toInt64)) fun r157 => if r157 = 0 then (some ((4 : Int32), D)) else (f_X9_lookWide_65 S o0 x1 x2 D)) else (f_X9_lookWide_65 S o0 x1 x2 D)
def f_X9_lookWide_15 (S : sh) (o0 : Nat) (x1 : Int32) (xs0 : Int32) (D : dt) : Option (Int32 × dt) := if xs0 = 0 then (f_X9_lookWide_32 S o0 x1 xs0 D) else (cq (f_X9_isSecond S o0 (x1 + (1 : Int32)) D) fun r161 D162 => if r161 = 0 then (some ((1 : Int32), D162)) else (f_X9_lookWide_32 S o0 x1 xs0 D162))
def f_X9_lookWide (S : sh) (o0 : Nat) (x1 : Int32) (D : dt) : Option (Int32 × dt) := if (gI D o0 0) ≤ (x1 + (1 : Int32)) then (f_X9_lookWide_15 S o0 x1 (0 : Int32) D) else (f_X9_lookWide_15 S o0 x1 (1 : Int32) D)
-- JudgedCodeModel.look
def f_X9_look_300 (S : sh) (x1 : Int32) (os0 : Nat) (os1 : Nat) (xs2 : Int32) (xs3 : Int32) (D : dt) : Option (Int32 × dt) := cq (f_X9_lookBoth S os1 xs2 xs3 D) fun r144 D145 => cq (f_X9_onward S os0 r144 (x1 + (1 : Int32)) D145) fun r147 D148 => some (r147, D148)
def f_X9_look_272 (S : sh) (x1 : Int32) (os0 : Nat) (xs1 : Int32) (D : dt) : Option (Int32 × dt) := cq (f_X9_onward S os0 xs1 (x1 + (1 : Int32)) D) fun r150 D151 => some (r150, D151)
def f_X9_look_118 (S : sh) (os0 : Nat) (xs1 : Int32) (xs2 : Int32) (xs3 : Int32) (D : dt) : Option (Int32 × dt) := cq (f_X9_onward S os0 xs1 (xs2 + xs3) D) fun r153 D154 => some (r153, D154)
def f_X9_look_216 (S : sh) (x1 : Int32) (os0 : Nat) (xs1 : Int32) (D : dt) : Option (Int32 × dt) := cq (f_X9_onward S os0 xs1 (x1 + (1 : Int32)) D) fun r156 D157 => some (r156, D157)
def f_X9_look_252 (S : sh) (x1 : Int32) (os0 : Nat) (D : dt) : Option (Int32 × dt) := f_X9_look_272 S x1 os0 (2 : Int32) D
def f_X9_look (S : sh) (o0 : Nat) (x1 : Int32) (D : dt) : Option (Int32 × dt) := cq (f_X9_kindOf S o0 x1 D) fun r159 D160 => if r159 = 0 then (some ((1 : Int32), D160)) else if r159 = 1 then (cq (f_X9_lookRegister S o0 x1 D160) fun r164 D165 => cq (f_X9_onward S o0 r164 (x1 + (1 : Int32)) D165) fun r167 D168 => some (r167, D168)) else if r159 = 2 then (cq (f_X9_lookJump S o0 x1 D160) fun r171 D172 => some (r171, D172)) else if r159 = 3 then (rq (gR D160 o0 1) fun o174 => ix x1 (sA S o174) <| if ((gI D160 o174 x1.toNatClampNeg) &&& (7 : Int32)) = (5 : Int32) then (rq (gR D160 o0 4) fun o185 => ix x1 (sA S o185) <| f_X9_look_118 S o0 (0 : Int32) (x1 + (1 : Int32)) (gI D160 o185 x1.toNatClampNeg) D160) else (rq (gR D160 o0 5) fun o180 => ix x1 (sA S o180) <| f_X9_look_118 S o0 (0 : Int32) (x1 + (1 : Int32)) (gI D160 o180 x1.toNatClampNeg) D160)) else if r159 = 4 then (rq (gR D160 o0 40) fun o191 => ix (0 : Int32) (sA S o191) <| if (gI D160 o191 (0 : Int32).toNatClampNeg) = (1 : Int32) then (some ((0 : Int32), D160)) else (some ((5 : Int32), D160))) else if r159 = 5 then (rq (gR D160 o0 5) fun o198 => ix x1 (sA S o198) <| cq (f_X9_lookCall S o0 x1 (gI D160 o198 x1.toNatClampNeg) D160) fun r204 D205 => cq (f_X9_onward S o0 r204 (x1 + (1 : Int32)) D205) fun r207 D208 => some (r207, D208)) else if r159 = 6 then (cq (f_X9_lookLoad S o0 x1 (0 : Int32) D160) fun r211 D212 => cq (f_X9_onward S o0 r211 (x1 + (1 : Int32)) D212) fun r214 D215 => some (r214, D215)) else if r159 = 7 then (cq (f_X9_lookLoad S o0 x1 (1 : Int32) D160) fun r218 D219 => cq (f_X9_onward S o0 r218 (x1 + (1 : Int32)) D219) fun r221 D222 => some (r221, D222)) else if r159 = 8 then (rq (gR D160 o0 40) fun o224 => rq (gR D160 o0 2) fun o228 => ix x1 (sA S o228) <| ix (gI D160 o228 x1.toNatClampNeg) (sA S o224) <| if (gI D160 o224 (gI D160 o228 x1.toNatClampNeg).toNatClampNeg) = 0 then (f_X9_look_216 S x1 o0 (2 : Int32) D160) else (cq (f_X9_widthOf S o0 x1 D160) fun r236 D237 => cq (f_X9_lookPut S o0 x1 r236 (-1 : Int32) D237) fun r239 D240 => f_X9_look_216 S x1 o0 r239 D240)) else if r159 = 9 then (rq (gR D160 o0 40) fun o242 => rq (gR D160 o0 2) fun o246 => ix x1 (sA S o246) <| ix (gI D160 o246 x1.toNatClampNeg) (sA S o242) <| if (gI D160 o242 (gI D160 o246 x1.toNatClampNeg).toNatClampNeg) = 0 then (f_X9_look_252 S x1 o0 D160) else (rq (gR D160 o0 40) fun o253 => rq (gR D160 o0 3) fun o257 => ix x1 (sA S o257) <| ix (gI D160 o257 x1.toNatClampNeg) (sA S o253) <| if (gI D160 o253 (gI D160 o257 x1.toNatClampNeg).toNatClampNeg) = 0 then (f_X9_look_252 S x1 o0 D160) else (cq (f_X9_widthOf S o0 x1 D160) fun r265 D266 => rq (gR D266 o0 3) fun o267 => ix x1 (sA S o267) <| cq (f_X9_lookPut S o0 x1 r265 (gI D266 o267 x1.toNatClampNeg) D266) fun r273 D274 => f_X9_look_272 S x1 o0 r273 D274))) else if r159 = 10 then (rq (gR D160 o0 1) fun o276 => ix x1 (sA S o276) <| if (gI D160 o276 x1.toNatClampNeg) = (219 : Int32) then (f_X9_look_300 S x1 o0 o0 x1 (8 : Int32) D160) else (f_X9_look_300 S x1 o0 o0 x1 (4 : Int32) D160)) else (cq (f_X9_lookWide S o0 x1 D160) fun r283 D284 => some (r283, D284))
-- JudgedCodeModel.judge
def f_X9_judge_205 (S : sh) (k161 : Nat → Int32 → dt → Option (Int32 × dt)) (o0 : Nat) (x1 : Int32) (D : dt) : Option (Int32 × dt) := nm (x1 + 1) fun y85 => k161 o0 y85 D
def f_X9_judge_161 (S : sh) : Nat → Nat → Int32 → dt → Option (Int32 × dt)
  | 0, _, _, _ => none
  | n + 1, o0, x1, D => if (gI D o0 0) ≤ x1 then (some ((0 : Int32), D)) else (rq (gR D o0 27) fun o87 => ix x1 (sA S o87) <| if (gI D o87 x1.toNatClampNeg) = 0 then (f_X9_judge_205 S (f_X9_judge_161 S n) o0 x1 D) else (nm (pI D o0 46 x1) fun D93 => cq (f_X9_take S o0 x1 D93) fun _ D95 => cq (f_X9_look S o0 x1 D95) fun r97 D98 => if r97 ≤ 0 then (f_X9_judge_205 S (f_X9_judge_161 S n) o0 x1 D98) else (nm (pI D98 o0 26 x1) fun D100 => some (r97, D100))))
def f_X9_judge_119 (S : sh) : Nat → Nat → Int32 → dt → Option (Int32 × dt)
  | 0, _, _, _ => none
  | n + 1, o0, x1, D => if (512 : Int32) ≤ x1 then (rq (gR D o0 40) fun o102 => ix (1 : Int32) (sA S o102) <| nm (pI D o102 (1 : Int32).toNatClampNeg (2 : Int32)) fun D107 => rq (gR D107 o0 40) fun o108 => ix (10 : Int32) (sA S o108) <| nm (pI D107 o108 (10 : Int32).toNatClampNeg (3 : Int32)) fun D113 => cq (f_X9_goTo S o0 (0 : Int32) D113) fun _ D115 => nm ((0 : Int32)) fun y116 => f_X9_judge_161 S LF o0 y116 D115) else (rq (gR D o0 45) fun o117 => ix x1 (sA S o117) <| nm (pI D o117 x1.toNatClampNeg (vp_nar .boolean (0 : Int32))) fun D122 => nm (x1 + 1) fun y123 => f_X9_judge_119 S n o0 y123 D122)
def f_X9_judge_100 (S : sh) : Nat → Nat → Int32 → dt → Option (Int32 × dt)
  | 0, _, _, _ => none
  | n + 1, o0, x1, D => if (75 : Int32) ≤ x1 then (nm ((0 : Int32)) fun y125 => f_X9_judge_119 S LF o0 y125 D) else (cq (f_X9_forget S o0 x1 D) fun _ D127 => nm (x1 + 1) fun y128 => f_X9_judge_100 S n o0 y128 D127)
def f_X9_judge_91 (S : sh) (k51 : Nat → Int32 → dt → Option (Int32 × dt)) (o0 : Nat) (x1 : Int32) (os0 : Nat) (xs1 : Int32) (xs2 : Int32) (D : dt) : Option (Int32 × dt) := ix xs1 (sA S os0) <| nm (pI D os0 xs1.toNatClampNeg (vp_nar .boolean xs2)) fun D130 => nm (x1 + 1) fun y131 => k51 o0 y131 D130
def f_X9_judge_90 (S : sh) (k51 : Nat → Int32 → dt → Option (Int32 × dt)) (o0 : Nat) (x1 : Int32) (os0 : Nat) (xs1 : Int32) (D : dt) : Option (Int32 × dt) := f_X9_judge_91 S k51 o0 x1 os0 xs1 (0 : Int32) D
def f_X9_judge_51 (S : sh) : Nat → Nat → Int32 → dt → Option (Int32 × dt)
  | 0, _, _, _ => none
  | n + 1, o0, x1, D => if (gI D o0 0) ≤ x1 then (nm ((0 : Int32)) fun y133 => f_X9_judge_100 S LF o0 y133 D) else (rq (gR D o0 28) fun o134 => rq (gR D o0 1) fun o138 => ix x1 (sA S o138) <| if (gI D o138 x1.toNatClampNeg) = (24 : Int32) then (rq (gR D o0 28) fun o144 => ix x1 (sA S o144) <| if (gI D o144 x1.toNatClampNeg) = 0 then (f_X9_judge_91 S (f_X9_judge_51 S n) o0 x1 o134 (x1 + (1 : Int32)) (1 : Int32) D) else (f_X9_judge_90 S (f_X9_judge_51 S n) o0 x1 o134 (x1 + (1 : Int32)) D)) else (f_X9_judge_90 S (f_X9_judge_51 S n) o0 x1 o134 (x1 + (1 : Int32)) D))
def f_X9_judge_7 (S : sh) : Nat → Nat → Int32 → dt → Option (Int32 × dt)
  | 0, _, _, _ => none
  | n + 1, o0, x1, D => if (200 : Int32) ≤ x1 then (if (gI D o0 0) = 0 then (nm (pI D o0 26 (0 : Int32)) fun D153 => some ((6 : Int32), D153)) else (nm ((0 : Int32)) fun y152 => f_X9_judge_51 S LF o0 y152 D)) else (rq (gR D o0 27) fun o154 => ix x1 (sA S o154) <| nm (pI D o154 x1.toNatClampNeg (vp_nar .boolean (0 : Int32))) fun D159 => rq (gR D159 o0 28) fun o160 => ix x1 (sA S o160) <| nm (pI D159 o160 x1.toNatClampNeg (vp_nar .boolean (0 : Int32))) fun D165 => nm (x1 + 1) fun y166 => f_X9_judge_7 S n o0 y166 D165)
def f_X9_judge (S : sh) (o0 : Nat) (D : dt) : Option (Int32 × dt) := nm (pI D o0 26 (-1 : Int32)) fun D167 => nm ((0 : Int32)) fun y168 => f_X9_judge_7 S LF o0 y168 D167
-- JudgedCodeModel.place
def f_X9_place (S : sh) (o0 : Nat) (D : dt) : Option (Int32 × dt) := some ((gI D o0 26), D)
theorem mk_X9_lookPut : MkV yX9_lookPut RX9 cX9_lookPut 12 (some .int) 3 := ⟨⟨lk_1576, lk_109, lk_121, (tb_in (i := 1577) (by decide +kernel) (by decide +kernel))⟩, by decide +kernel⟩
theorem mk_X9_lookBoth : MkV yX9_lookBoth RX9 cX9_lookBoth 8 (some .int) 2 := ⟨⟨lk_1586, lk_111, lk_121, (tb_in (i := 1587) (by decide +kernel) (by decide +kernel))⟩, by decide +kernel⟩
theorem mk_X9_lookWide : MkV yX9_lookWide RX9 cX9_lookWide 5 (some .int) 1 := ⟨⟨lk_1590, lk_112, lk_121, (tb_in (i := 1591) (by decide +kernel) (by decide +kernel))⟩, by decide +kernel⟩
theorem mk_X9_look : MkV yX9_look RX9 cX9_look 2 (some .int) 1 := ⟨⟨lk_1475, lk_89, lk_121, (tb_in (i := 1476) (by decide +kernel) (by decide +kernel))⟩, by decide +kernel⟩
theorem mk_X9_judge : MkV yX9_judge RX9 cX9_judge 3 (some .int) 0 := ⟨⟨lk_1448, lk_1449, lk_121, (tb_in (i := 1450) (by decide +kernel) (by decide +kernel))⟩, by decide +kernel⟩
theorem mk_X9_place : MkV yX9_place RX9 cX9_place 1 (some .int) 0 := ⟨⟨lk_1593, lk_1594, lk_121, (tb_in (i := 1595) (by decide +kernel) (by decide +kernel))⟩, by decide +kernel⟩
section
variable {p : Program} {l : Launch} {e : Env} {R : Room} {s : State} {m : MethodId} {args : Array Value} {below : List Frame} {meth : Method} {c : Code} {H : Heap} {locs : List Loc} {G : va_G} {cA : Nat → ClassId} {S : sh} {D : dt} {ad : Nat → Nat} {A : Nat → Prop}
set_option maxHeartbeats 4000000 in
set_option maxRecDepth 100000 in
theorem w_X9_lookPut_195 {r : Int32} {D' : dt} (hC : Cx RX9 cX9_lookPut 12 (some .int) p s m args meth c) (hR : 2 ≤ R.frames ∧ 44 ≤ R.locals) {k164 : Nat → Int32 → Int32 → Int32 → dt → Option (Int32 × dt)} (hk164 : ∀ (o0 a0 : Nat) (x3 : Int32) (x10 : Int32) (x11 : Int32) (D : dt) (H : Heap) (locs : List Loc) (ls : Array Slot), Is S ad o0 a0 8 → Wd G cA S D ad A s H locs → lv_has ls 12 [(0, .ref a0), (3, .int x3), (10, .int x10), (11, .int x11)] → k164 o0 x3 x10 x11 D = some (r, D') → W p l e R s m args below meth c H locs 0 0 (MQ below (Qn (some (.int r)) True (wpost G cA S D' ad A) A) args s 0 0 A) (F0 m 164 ls [])) : ∀ (o0 a0 : Nat) (x3 : Int32) (x10 : Int32) (x11 : Int32) (os0 as0 : Nat) (xs1 : Int32) (xs2 : Int32) (D : dt) (H : Heap) (locs : List Loc) (ls : Array Slot), Is S ad o0 a0 8 → Is S ad os0 as0 103 → Wd G cA S D ad A s H locs → lv_has ls 12 [(0, .ref a0), (3, .int x3), (10, .int x10), (11, .int x11)] → f_X9_lookPut_195 S k164 o0 x3 x10 x11 os0 xs1 xs2 D = some (r, D') → W p l e R s m args below meth c H locs 0 0 (MQ below (Qn (some (.int r)) True (wpost G cA S D' ad A) A) args s 0 0 A) (F0 m 195 ls [.int xs2, .int xs1, .ref as0]) := by
  obtain ⟨hx, hb, -⟩ := id hC
  intro o0 a0 x3 x10 x11 os0 as0 xs1 xs2 D H locs ls hi0 his0 hw hl h
  unfold f_X9_lookPut_195 at h
  obtain ⟨hn66, h⟩ := ix_i h
  refine r_zas hC hw his0 hn66 dX9_lookPut_195 (fun D67 eD67 H locs hw => ?_)
  have h := nm_i h D67 eD67
  obtain ⟨y68, ey68⟩ : ∃ z : Int32, z = x11 + 1 := ⟨_, rfl⟩
  have h := nm_i h y68 ey68
  refine lv_iinc (v := y68) (lv' := [(11, .int y68), (0, .ref a0), (3, .int x3), (10, .int x10)]) hx hb dX9_lookPut_196 hl (k := 3) rfl (by rw [ey68]; rfl) (by decide) rfl (fun ls hl => ?_)
  refine lv_goto (tgt := 164) hx hb dX9_lookPut_199 (by decide) ?_
  exact hk164 o0 a0 x3 x10 y68 _ _ _ _ hi0 hw (lv_sub hl [1, 2, 3, 0] rfl) h
set_option maxHeartbeats 4000000 in
set_option maxRecDepth 100000 in
theorem w_X9_lookPut_164 {r : Int32} {D' : dt} (hC : Cx RX9 cX9_lookPut 12 (some .int) p s m args meth c) (hR : 2 ≤ R.frames ∧ 44 ≤ R.locals) : ∀ (n : Nat), ∀ (o0 a0 : Nat) (x3 : Int32) (x10 : Int32) (x11 : Int32) (D : dt) (H : Heap) (locs : List Loc) (ls : Array Slot), Is S ad o0 a0 8 → Wd G cA S D ad A s H locs → lv_has ls 12 [(0, .ref a0), (3, .int x3), (10, .int x10), (11, .int x11)] → f_X9_lookPut_164 S n o0 x3 x10 x11 D = some (r, D') → W p l e R s m args below meth c H locs 0 0 (MQ below (Qn (some (.int r)) True (wpost G cA S D' ad A) A) args s 0 0 A) (F0 m 164 ls []) := by
  obtain ⟨hx, hb, -⟩ := id hC
  intro n
  induction n with
  | zero =>
    intro o0 a0 x3 x10 x11 D H locs ls hi0 hw hl h
    rw [f_X9_lookPut_164.eq_1] at h
    cases h
  | succ n ih =>
    intro o0 a0 x3 x10 x11 D H locs ls hi0 hw hl h
    rw [f_X9_lookPut_164.eq_2] at h
    refine lv_iload hx hb dX9_lookPut_164 (lv_at hl 3 rfl) ?_
    refine lv_iload hx hb dX9_lookPut_166 (lv_at hl 2 rfl) ?_
    refine lv_bipush (v := 8) hx hb dX9_lookPut_168 (by decide) ?_
    refine lv_iadd hx hb dX9_lookPut_170 ?_
    refine lv_icmp_ge (tgt := 202) hx hb dX9_lookPut_171 (by decide) (fun c69 => ?_) (fun c69 => ?_)
    · have h := i_yes c69 h
      refine lv_iconst (v := 0) hx hb dX9_lookPut_202 (by decide) ?_
      cases h
      exact r_iret hC hw dX9_lookPut_203
    · have h := i_no c69 h
      refine lv_aload_n hx hb dX9_lookPut_174 rfl (lv_at hl 0 rfl) ?_
      obtain ⟨o70, ho73, h⟩ := rq_i h
      refine r_getR hC hw kc_8 hi0 45 rfl lk_1114 dX9_lookPut_175 rfl ho73 (fun a71 hi72 => ?_)
      refine lv_iload hx hb dX9_lookPut_178 (lv_at hl 3 rfl) ?_
      refine lv_aload_n hx hb dX9_lookPut_180 rfl (lv_at hl 0 rfl) ?_
      obtain ⟨o74, ho77, h⟩ := rq_i h
      refine r_getR hC hw kc_8 hi0 40 rfl lk_1109 dX9_lookPut_181 rfl ho77 (fun a75 hi76 => ?_)
      refine lv_iload_n hx hb dX9_lookPut_184 rfl (lv_at hl 1 rfl) ?_
      obtain ⟨hn78, h⟩ := ix_i h
      refine r_iald hC hw hi76 hn78 dX9_lookPut_185 ?_
      refine lv_iconst (v := 1) hx hb dX9_lookPut_186 (by decide) ?_
      refine lv_icmp_ne (tgt := 194) hx hb dX9_lookPut_187 (by decide) (fun c79 => ?_) (fun c79 => ?_)
      · have h := i_no c79 h
        refine lv_iconst (v := 0) hx hb dX9_lookPut_194 (by decide) ?_
        exact w_X9_lookPut_195 hC hR ih o0 a0 x3 x10 x11 o70 a71 x11 (0 : Int32) _ _ _ _ hi0 hi72 hw (lv_sub hl [0, 1, 2, 3] rfl) h
      · have h := i_yes c79 h
        refine lv_iconst (v := 1) hx hb dX9_lookPut_190 (by decide) ?_
        refine lv_goto (tgt := 195) hx hb dX9_lookPut_191 (by decide) ?_
        exact w_X9_lookPut_195 hC hR ih o0 a0 x3 x10 x11 o70 a71 x11 (1 : Int32) _ _ _ _ hi0 hi72 hw (lv_sub hl [0, 1, 2, 3] rfl) h
set_option maxHeartbeats 4000000 in
set_option maxRecDepth 100000 in
theorem w_X9_lookPut_101 {r : Int32} {D' : dt} (hC : Cx RX9 cX9_lookPut 12 (some .int) p s m args meth c) (hR : 2 ≤ R.frames ∧ 44 ≤ R.locals) : ∀ (o0 a0 : Nat) (x1 : Int32) (x2 : Int32) (x3 : Int32) (x4 : Int32) (x5 : Int32) (x6 : Int64) (x8 : Int32) (D : dt) (H : Heap) (locs : List Loc) (ls : Array Slot), Is S ad o0 a0 8 → Wd G cA S D ad A s H locs → lv_has ls 12 [(0, .ref a0), (1, .int x1), (2, .int x2), (3, .int x3), (4, .int x4), (5, .int x5), (6, .long x6), (8, .int x8)] → f_X9_lookPut_101 S o0 x1 x2 x3 x4 x5 x6 x8 D = some (r, D') → W p l e R s m args below meth c H locs 0 0 (MQ below (Qn (some (.int r)) True (wpost G cA S D' ad A) A) args s 0 0 A) (F0 m 101 ls []) := by
  obtain ⟨hx, hb, -⟩ := id hC
  intro o0 a0 x1 x2 x3 x4 x5 x6 x8 D H locs ls hi0 hw hl h
  unfold f_X9_lookPut_101 at h
  refine lv_aload_n hx hb dX9_lookPut_101 rfl (lv_at hl 0 rfl) ?_
  refine lv_iload hx hb dX9_lookPut_102 (lv_at hl 4 rfl) ?_
  refine lv_aload_n hx hb dX9_lookPut_104 rfl (lv_at hl 0 rfl) ?_
  obtain ⟨o80, ho83, h⟩ := rq_i h
  refine r_getR hC hw kc_8 hi0 4 rfl lk_1073 dX9_lookPut_105 rfl ho83 (fun a81 hi82 => ?_)
  refine lv_iload_n hx hb dX9_lookPut_108 rfl (lv_at hl 1 rfl) ?_
  obtain ⟨hn84, h⟩ := ix_i h
  refine r_iald hC hw hi82 hn84 dX9_lookPut_109 ?_
  refine lv_iload_n hx hb dX9_lookPut_110 rfl (lv_at hl 2 rfl) ?_
  refine lv_iconst (v := 1) hx hb dX9_lookPut_111 (by decide) ?_
  obtain ⟨r86, D87, hq85, h⟩ := cq_i h
  refine r_cV (st' := [.int r86]) [.int x4, .int (gI D o80 x1.toNatClampNeg), .int x2, .int (1 : Int32)] [] hC hw kc_8 hi0 (k_X9_access _ hi0 hq85) mk_X9_access lk_1558 ⟨Nat.le_trans (by decide) hR.1, Nat.le_trans (by decide) hR.2⟩ ⟨Nat.zero_le _, Nat.zero_le _⟩ rfl hl.1 rfl rfl (Nat.le_of_ble_eq_true rfl) dX9_lookPut_112 (fun hP H locs hw => ?_)
  refine lv_istore (lv' := [(9, .int r86), (0, .ref a0), (1, .int x1), (2, .int x2), (3, .int x3), (4, .int x4), (5, .int x5), (6, .long x6), (8, .int x8)]) hx hb dX9_lookPut_115 hl (by decide) rfl (fun ls hl => ?_)
  refine lv_iload hx hb dX9_lookPut_117 (lv_at hl 0 rfl) ?_
  refine lv_if_gt (tgt := 127) hx hb dX9_lookPut_119 (by decide) (fun c88 => ?_) (fun c88 => ?_)
  · have h := i_yes c88 h
    refine lv_iload hx hb dX9_lookPut_127 (lv_at hl 0 rfl) ?_
    cases h
    exact r_iret hC hw dX9_lookPut_129
  · have h := i_no c88 h
    refine lv_iload hx hb dX9_lookPut_122 (lv_at hl 6 rfl) ?_
    refine lv_if_ne (tgt := 130) hx hb dX9_lookPut_124 (by decide) (fun c89 => ?_) (fun c89 => ?_)
    · have h := i_no c89 h
      refine lv_lload hx hb dX9_lookPut_130 (lv_at hl 7 rfl) ?_
      refine lv_l2i (v := x6.toInt32) hx hb dX9_lookPut_132 rfl ?_
      refine lv_topi (fun y90 ey90 => ?_)
      have h := nm_i h y90 ey90
      refine lv_istore (lv' := [(10, .int y90), (9, .int r86), (0, .ref a0), (1, .int x1), (2, .int x2), (3, .int x3), (4, .int x4), (5, .int x5), (6, .long x6), (8, .int x8)]) hx hb dX9_lookPut_133 hl (by decide) rfl (fun ls hl => ?_)
      refine lv_aload_n hx hb dX9_lookPut_135 rfl (lv_at hl 2 rfl) ?_
      refine lv_iload hx hb dX9_lookPut_136 (lv_at hl 0 rfl) ?_
      refine lv_iload_n hx hb dX9_lookPut_138 rfl (lv_at hl 4 rfl) ?_
      obtain ⟨_, D92, hq91, h⟩ := cq_i h
      refine r_cV (st' := []) [.int y90, .int x2] [] hC hw kc_8 hi0 (k_X9_put_ _ hi0 hq91) mk_X9_put_ lk_1580 ⟨Nat.le_trans (by decide) hR.1, Nat.le_trans (by decide) hR.2⟩ ⟨Nat.zero_le _, Nat.zero_le _⟩ rfl hl.1 rfl rfl (Nat.le_of_ble_eq_true rfl) dX9_lookPut_139 (fun hP H locs hw => ?_)
      refine lv_iload hx hb dX9_lookPut_142 (lv_at hl 9 rfl) ?_
      refine lv_if_eq (tgt := 202) hx hb dX9_lookPut_144 (by decide) (fun c93 => ?_) (fun c93 => ?_)
      · have h := i_yes c93 h
        refine lv_iconst (v := 0) hx hb dX9_lookPut_202 (by decide) ?_
        cases h
        exact r_iret hC hw dX9_lookPut_203
      · have h := i_no c93 h
        refine lv_aload_n hx hb dX9_lookPut_147 rfl (lv_at hl 2 rfl) ?_
        refine lv_iload_n hx hb dX9_lookPut_148 rfl (lv_at hl 5 rfl) ?_
        refine lv_bipush (v := 11) hx hb dX9_lookPut_149 (by decide) ?_
        refine lv_iload hx hb dX9_lookPut_151 (lv_at hl 0 rfl) ?_
        refine lv_bipush (v := 8) hx hb dX9_lookPut_153 (by decide) ?_
        refine lv_idiv hx hb dX9_lookPut_155 (by decide) ?_
        refine lv_iadd hx hb dX9_lookPut_156 ?_
        obtain ⟨_, D95, hq94, h⟩ := cq_i h
        refine r_cV (st' := []) [.int x3, .int ((11 : Int32) + (y90 / (8 : Int32)))] [] hC hw kc_8 hi0 (k_X9_same _ hi0 hq94) mk_X9_same lk_1485 ⟨Nat.le_trans (by decide) hR.1, Nat.le_trans (by decide) hR.2⟩ ⟨Nat.zero_le _, Nat.zero_le _⟩ rfl hl.1 rfl rfl (Nat.le_of_ble_eq_true rfl) dX9_lookPut_157 (fun hP H locs hw => ?_)
        refine lv_iload hx hb dX9_lookPut_160 (lv_at hl 0 rfl) ?_
        refine lv_istore (lv' := [(11, .int y90), (10, .int y90), (9, .int r86), (0, .ref a0), (1, .int x1), (2, .int x2), (3, .int x3), (4, .int x4), (5, .int x5), (6, .long x6), (8, .int x8)]) hx hb dX9_lookPut_162 hl (by decide) rfl (fun ls hl => ?_)
        exact w_X9_lookPut_164 hC hR LF o0 a0 x3 y90 y90 _ _ _ _ hi0 hw (lv_sub hl [3, 6, 1, 0] rfl) h
    · have h := i_yes c89 h
      refine lv_iload hx hb dX9_lookPut_127 (lv_at hl 0 rfl) ?_
      cases h
      exact r_iret hC hw dX9_lookPut_129
set_option maxHeartbeats 4000000 in
set_option maxRecDepth 100000 in
theorem w_X9_lookPut_78 {r : Int32} {D' : dt} (hC : Cx RX9 cX9_lookPut 12 (some .int) p s m args meth c) (hR : 2 ≤ R.frames ∧ 44 ≤ R.locals) : ∀ (o0 a0 : Nat) (x1 : Int32) (x2 : Int32) (x3 : Int32) (x4 : Int32) (x5 : Int32) (x6 : Int64) (xs0 : Int32) (D : dt) (H : Heap) (locs : List Loc) (ls : Array Slot), Is S ad o0 a0 8 → Wd G cA S D ad A s H locs → lv_has ls 12 [(0, .ref a0), (1, .int x1), (2, .int x2), (3, .int x3), (4, .int x4), (5, .int x5), (6, .long x6)] → f_X9_lookPut_78 S o0 x1 x2 x3 x4 x5 x6 xs0 D = some (r, D') → W p l e R s m args below meth c H locs 0 0 (MQ below (Qn (some (.int r)) True (wpost G cA S D' ad A) A) args s 0 0 A) (F0 m 78 ls [.int xs0]) := by
  obtain ⟨hx, hb, -⟩ := id hC
  intro o0 a0 x1 x2 x3 x4 x5 x6 xs0 D H locs ls hi0 hw hl h
  unfold f_X9_lookPut_78 at h
  refine lv_istore (lv' := [(8, .int xs0), (0, .ref a0), (1, .int x1), (2, .int x2), (3, .int x3), (4, .int x4), (5, .int x5), (6, .long x6)]) hx hb dX9_lookPut_78 hl (by decide) rfl (fun ls hl => ?_)
  refine lv_iload_n hx hb dX9_lookPut_80 rfl (lv_at hl 4 rfl) ?_
  refine lv_if_lt (tgt := 101) hx hb dX9_lookPut_81 (by decide) (fun c96 => ?_) (fun c96 => ?_)
  · have h := i_yes c96 h
    exact w_X9_lookPut_101 hC hR o0 a0 x1 x2 x3 x4 x5 x6 xs0 _ _ _ _ hi0 hw (lv_sub hl [1, 2, 3, 4, 5, 6, 7, 0] rfl) h
  · have h := i_no c96 h
    refine lv_aload_n hx hb dX9_lookPut_84 rfl (lv_at hl 1 rfl) ?_
    obtain ⟨o97, ho100, h⟩ := rq_i h
    refine r_getR hC hw kc_8 hi0 40 rfl lk_1109 dX9_lookPut_85 rfl ho100 (fun a98 hi99 => ?_)
    refine lv_iload_n hx hb dX9_lookPut_88 rfl (lv_at hl 4 rfl) ?_
    obtain ⟨hn101, h⟩ := ix_i h
    refine r_iald hC hw hi99 hn101 dX9_lookPut_89 ?_
    refine lv_iconst (v := 1) hx hb dX9_lookPut_90 (by decide) ?_
    refine lv_icmp_eq (tgt := 101) hx hb dX9_lookPut_91 (by decide) (fun c102 => ?_) (fun c102 => ?_)
    · have h := i_yes c102 h
      exact w_X9_lookPut_101 hC hR o0 a0 x1 x2 x3 x4 x5 x6 xs0 _ _ _ _ hi0 hw (lv_sub hl [1, 2, 3, 4, 5, 6, 7, 0] rfl) h
    · have h := i_no c102 h
      refine lv_iload hx hb dX9_lookPut_94 (lv_at hl 0 rfl) ?_
      refine lv_if_ne (tgt := 101) hx hb dX9_lookPut_96 (by decide) (fun c103 => ?_) (fun c103 => ?_)
      · have h := i_no c103 h
        exact w_X9_lookPut_101 hC hR o0 a0 x1 x2 x3 x4 x5 x6 xs0 _ _ _ _ hi0 hw (lv_sub hl [1, 2, 3, 4, 5, 6, 7, 0] rfl) h
      · have h := i_yes c103 h
        refine lv_iconst (v := 3) hx hb dX9_lookPut_99 (by decide) ?_
        cases h
        exact r_iret hC hw dX9_lookPut_100
set_option maxHeartbeats 4000000 in
set_option maxRecDepth 100000 in
theorem w_X9_lookPut_77 {r : Int32} {D' : dt} (hC : Cx RX9 cX9_lookPut 12 (some .int) p s m args meth c) (hR : 2 ≤ R.frames ∧ 44 ≤ R.locals) : ∀ (o0 a0 : Nat) (x1 : Int32) (x2 : Int32) (x3 : Int32) (x4 : Int32) (x5 : Int32) (x6 : Int64) (D : dt) (H : Heap) (locs : List Loc) (ls : Array Slot), Is S ad o0 a0 8 → Wd G cA S D ad A s H locs → lv_has ls 12 [(0, .ref a0), (1, .int x1), (2, .int x2), (3, .int x3), (4, .int x4), (5, .int x5), (6, .long x6)] → f_X9_lookPut_77 S o0 x1 x2 x3 x4 x5 x6 D = some (r, D') → W p l e R s m args below meth c H locs 0 0 (MQ below (Qn (some (.int r)) True (wpost G cA S D' ad A) A) args s 0 0 A) (F0 m 77 ls []) := by
  obtain ⟨hx, hb, -⟩ := id hC
  intro o0 a0 x1 x2 x3 x4 x5 x6 D H locs ls hi0 hw hl h
  unfold f_X9_lookPut_77 at h
  refine lv_iconst (v := 0) hx hb dX9_lookPut_77 (by decide) ?_
  exact w_X9_lookPut_78 hC hR o0 a0 x1 x2 x3 x4 x5 x6 (0 : Int32) _ _ _ _ hi0 hw (lv_sub hl [0, 1, 2, 3, 4, 5, 6] rfl) h
set_option maxHeartbeats 4000000 in
set_option maxRecDepth 100000 in
theorem w_X9_lookPut_24 {r : Int32} {D' : dt} (hC : Cx RX9 cX9_lookPut 12 (some .int) p s m args meth c) (hR : 2 ≤ R.frames ∧ 44 ≤ R.locals) : ∀ (o0 a0 : Nat) (x1 : Int32) (x2 : Int32) (x3 : Int32) (x4 : Int32) (xs0 : Int32) (D : dt) (H : Heap) (locs : List Loc) (ls : Array Slot), Is S ad o0 a0 8 → Wd G cA S D ad A s H locs → lv_has ls 12 [(0, .ref a0), (1, .int x1), (2, .int x2), (3, .int x3), (4, .int x4)] → f_X9_lookPut_24 S o0 x1 x2 x3 x4 xs0 D = some (r, D') → W p l e R s m args below meth c H locs 0 0 (MQ below (Qn (some (.int r)) True (wpost G cA S D' ad A) A) args s 0 0 A) (F0 m 24 ls [.int xs0]) := by
  obtain ⟨hx, hb, -⟩ := id hC
  intro o0 a0 x1 x2 x3 x4 xs0 D H locs ls hi0 hw hl h
  unfold f_X9_lookPut_24 at h
  refine lv_istore (lv' := [(5, .int xs0), (0, .ref a0), (1, .int x1), (2, .int x2), (3, .int x3), (4, .int x4)]) hx hb dX9_lookPut_24 hl (by decide) rfl (fun ls hl => ?_)
  refine lv_aload_n hx hb dX9_lookPut_26 rfl (lv_at hl 1 rfl) ?_
  obtain ⟨o104, ho107, h⟩ := rq_i h
  refine r_getR hC hw kc_8 hi0 41 rfl lk_1110 dX9_lookPut_27 rfl ho107 (fun a105 hi106 => ?_)
  refine lv_iload hx hb dX9_lookPut_30 (lv_at hl 5 rfl) ?_
  obtain ⟨hn108, h⟩ := ix_i h
  refine r_lald hC hw hi106 hn108 dX9_lookPut_32 ?_
  refine lv_aload_n hx hb dX9_lookPut_33 rfl (lv_at hl 1 rfl) ?_
  obtain ⟨o109, ho112, h⟩ := rq_i h
  refine r_getR hC hw kc_8 hi0 4 rfl lk_1073 dX9_lookPut_34 rfl ho112 (fun a110 hi111 => ?_)
  refine lv_iload_n hx hb dX9_lookPut_37 rfl (lv_at hl 2 rfl) ?_
  obtain ⟨hn113, h⟩ := ix_i h
  refine r_iald hC hw hi111 hn113 dX9_lookPut_38 ?_
  refine lv_i2l (v := (gI D o109 x1.toNatClampNeg).toInt64) hx hb dX9_lookPut_39 rfl ?_
  refine lv_ladd hx hb dX9_lookPut_40 ?_
  refine lv_ldc2 (v := 512) hx hb hC.2.2.2.1 (hC.2.2.2.2.1 _ lk_1578) dX9_lookPut_41 ?_
  refine lv_ladd hx hb dX9_lookPut_44 ?_
  refine lv_topl (fun y114 ey114 => ?_)
  have h := nm_i h y114 ey114
  refine lv_lstore (lv' := [(6, .long y114), (5, .int xs0), (0, .ref a0), (1, .int x1), (2, .int x2), (3, .int x3), (4, .int x4)]) hx hb dX9_lookPut_45 hl (by decide) rfl (fun ls hl => ?_)
  refine lv_iload_n hx hb dX9_lookPut_47 rfl (lv_at hl 5 rfl) ?_
  refine lv_if_lt (tgt := 77) hx hb dX9_lookPut_48 (by decide) (fun c115 => ?_) (fun c115 => ?_)
  · have h := i_yes c115 h
    exact w_X9_lookPut_77 hC hR o0 a0 x1 x2 x3 x4 xs0 y114 _ _ _ _ hi0 hw (lv_sub hl [2, 3, 4, 5, 6, 1, 0] rfl) h
  · have h := i_no c115 h
    refine lv_iload_n hx hb dX9_lookPut_51 rfl (lv_at hl 4 rfl) ?_
    refine lv_bipush (v := 8) hx hb dX9_lookPut_52 (by decide) ?_
    refine lv_icmp_ne (tgt := 77) hx hb dX9_lookPut_54 (by decide) (fun c116 => ?_) (fun c116 => ?_)
    · have h := i_no c116 h
      exact w_X9_lookPut_77 hC hR o0 a0 x1 x2 x3 x4 xs0 y114 _ _ _ _ hi0 hw (lv_sub hl [2, 3, 4, 5, 6, 1, 0] rfl) h
    · have h := i_yes c116 h
      refine lv_iload hx hb dX9_lookPut_57 (lv_at hl 1 rfl) ?_
      refine lv_if_eq (tgt := 77) hx hb dX9_lookPut_59 (by decide) (fun c117 => ?_) (fun c117 => ?_)
      · have h := i_yes c117 h
        exact w_X9_lookPut_77 hC hR o0 a0 x1 x2 x3 x4 xs0 y114 _ _ _ _ hi0 hw (lv_sub hl [2, 3, 4, 5, 6, 1, 0] rfl) h
      · have h := i_no c117 h
        refine lv_lload hx hb dX9_lookPut_62 (lv_at hl 0 rfl) ?_
        refine lv_ldc2 (v := 7) hx hb hC.2.2.2.1 (hC.2.2.2.2.1 _ lk_1579) dX9_lookPut_64 ?_
        refine lv_land hx hb dX9_lookPut_67 ?_
        refine lv_lconst (v := 0) hx hb dX9_lookPut_68 (by decide) ?_
        refine W.lcmp hx hb dX9_lookPut_69 ?_
        refine lv_if_ne (tgt := 77) hx hb dX9_lookPut_70 (by decide) (fun c118 => ?_) (fun c118 => ?_)
        · have h := i_no c118 h
          exact w_X9_lookPut_77 hC hR o0 a0 x1 x2 x3 x4 xs0 y114 _ _ _ _ hi0 hw (lv_sub hl [2, 3, 4, 5, 6, 1, 0] rfl) h
        · have h := i_yes c118 h
          refine lv_iconst (v := 1) hx hb dX9_lookPut_73 (by decide) ?_
          refine lv_goto (tgt := 78) hx hb dX9_lookPut_74 (by decide) ?_
          exact w_X9_lookPut_78 hC hR o0 a0 x1 x2 x3 x4 xs0 y114 (1 : Int32) _ _ _ _ hi0 hw (lv_sub hl [2, 3, 4, 5, 6, 1, 0] rfl) h
set_option maxHeartbeats 4000000 in
set_option maxRecDepth 100000 in
theorem w_X9_lookPut_0 {r : Int32} {D' : dt} (hC : Cx RX9 cX9_lookPut 12 (some .int) p s m args meth c) (hR : 2 ≤ R.frames ∧ 44 ≤ R.locals) : ∀ (o0 a0 : Nat) (x1 : Int32) (x2 : Int32) (x3 : Int32) (D : dt) (H : Heap) (locs : List Loc) (ls : Array Slot), Is S ad o0 a0 8 → Wd G cA S D ad A s H locs → lv_has ls 12 [(0, .ref a0), (1, .int x1), (2, .int x2), (3, .int x3)] → f_X9_lookPut S o0 x1 x2 x3 D = some (r, D') → W p l e R s m args below meth c H locs 0 0 (MQ below (Qn (some (.int r)) True (wpost G cA S D' ad A) A) args s 0 0 A) (F0 m 0 ls []) := by
  obtain ⟨hx, hb, -⟩ := id hC
  intro o0 a0 x1 x2 x3 D H locs ls hi0 hw hl h
  unfold f_X9_lookPut at h
  refine lv_aload_n hx hb dX9_lookPut_0 rfl (lv_at hl 0 rfl) ?_
  obtain ⟨o119, ho122, h⟩ := rq_i h
  refine r_getR hC hw kc_8 hi0 2 rfl lk_1071 dX9_lookPut_1 rfl ho122 (fun a120 hi121 => ?_)
  refine lv_iload_n hx hb dX9_lookPut_4 rfl (lv_at hl 1 rfl) ?_
  obtain ⟨hn123, h⟩ := ix_i h
  refine r_iald hC hw hi121 hn123 dX9_lookPut_5 ?_
  refine lv_topi (fun y124 ey124 => ?_)
  have h := nm_i h y124 ey124
  refine lv_istore (lv' := [(4, .int y124), (0, .ref a0), (1, .int x1), (2, .int x2), (3, .int x3)]) hx hb dX9_lookPut_6 hl (by decide) rfl (fun ls hl => ?_)
  refine lv_aload_n hx hb dX9_lookPut_8 rfl (lv_at hl 1 rfl) ?_
  obtain ⟨o125, ho128, h⟩ := rq_i h
  refine r_getR hC hw kc_8 hi0 40 rfl lk_1109 dX9_lookPut_9 rfl ho128 (fun a126 hi127 => ?_)
  refine lv_iload hx hb dX9_lookPut_12 (lv_at hl 0 rfl) ?_
  obtain ⟨hn129, h⟩ := ix_i h
  refine r_iald hC hw hi127 hn129 dX9_lookPut_14 ?_
  refine lv_iconst (v := 3) hx hb dX9_lookPut_15 (by decide) ?_
  refine lv_icmp_ne (tgt := 23) hx hb dX9_lookPut_16 (by decide) (fun c130 => ?_) (fun c130 => ?_)
  · have h := i_no c130 h
    refine lv_iconst (v := 0) hx hb dX9_lookPut_23 (by decide) ?_
    exact w_X9_lookPut_24 hC hR o0 a0 x1 x2 x3 y124 (0 : Int32) _ _ _ _ hi0 hw (lv_sub hl [1, 2, 3, 4, 0] rfl) h
  · have h := i_yes c130 h
    refine lv_iconst (v := 1) hx hb dX9_lookPut_19 (by decide) ?_
    refine lv_goto (tgt := 24) hx hb dX9_lookPut_20 (by decide) ?_
    exact w_X9_lookPut_24 hC hR o0 a0 x1 x2 x3 y124 (1 : Int32) _ _ _ _ hi0 hw (lv_sub hl [1, 2, 3, 4, 0] rfl) h
set_option maxHeartbeats 4000000 in
set_option maxRecDepth 100000 in
theorem k_X9_lookPut {l : Launch} {G : va_G} {cA : Nat → ClassId} {S : sh} {D D' : dt} {ad : Nat → Nat} (sz : Nat) {o0 a0 : Nat} {x1 : Int32} {x2 : Int32} {x3 : Int32} {r : Int32} (hi0 : Is S ad o0 a0 8) (h : f_X9_lookPut S o0 x1 x2 x3 D = some (r, D')) : Co l yX9_lookPut (Cond.code yX9_lookPut cX9_lookPut 12 (some .int) :: tb0) 2 44 [.ref a0, .int x1, .int x2, .int x3] G cA S D ad sz (some (.int r)) True D' := by
  refine Met.ofW (cc := cX9_lookPut) (maxL := 12) (ret := (some .int)) (by decide) rfl ?_
  intro p e s m args below meth c s₁ B hml hv
  obtain ⟨rfl, hsz, hP, hK, hD0, hT, hX⟩ := hv
  subst hsz
  have hts := atoms_spec (ws := Cond.code yX9_lookPut cX9_lookPut 12 (some .int) :: tb0) B.pre
  have hC : Cx RX9 cX9_lookPut 12 (some .int) p s m _ meth c := ⟨B.exec, B.bytes, hml, findClass_of_methodNamed B.named, fun w q => hts w (List.mem_cons_of_mem _ q), B.returns, B.notSynchronized⟩
  have hw := Wd.entry hP hK hD0 hT hX
  have hl := lv_entry ([.ref a0, .int x1, .int x2, .int x3]) (n := 12) (Nat.le_of_ble_eq_true rfl)
  rw [lg_entry_eq]
  exact w_X9_lookPut_0 hC ⟨Nat.le_refl _, Nat.le_refl _⟩ o0 a0 x1 x2 x3 D _ _ _ hi0 hw hl h
set_option maxHeartbeats 4000000 in
set_option maxRecDepth 100000 in
theorem w_X9_lookBoth_175 {r : Int32} {D' : dt} (hC : Cx RX9 cX9_lookBoth 8 (some .int) p s m args meth c) (hR : 2 ≤ R.frames ∧ 44 ≤ R.locals) : ∀ (o0 a0 : Nat) (x1 : Int32) (x2 : Int32) (x4 : Int32) (x5 : Int32) (D : dt) (H : Heap) (locs : List Loc) (ls : Array Slot), Is S ad o0 a0 8 → Wd G cA S D ad A s H locs → lv_has ls 8 [(0, .ref a0), (1, .int x1), (2, .int x2), (4, .int x4), (5, .int x5)] → f_X9_lookBoth_175 S o0 x1 x2 x4 x5 D = some (r, D') → W p l e R s m args below meth c H locs 0 0 (MQ below (Qn (some (.int r)) True (wpost G cA S D' ad A) A) args s 0 0 A) (F0 m 175 ls []) := by
  obtain ⟨hx, hb, -⟩ := id hC
  intro o0 a0 x1 x2 x4 x5 D H locs ls hi0 hw hl h
  unfold f_X9_lookBoth_175 at h
  refine lv_iload hx hb dX9_lookBoth_175 (lv_at hl 4 rfl) ?_
  refine lv_if_eq (tgt := 193) hx hb dX9_lookBoth_177 (by decide) (fun c99 => ?_) (fun c99 => ?_)
  · have h := i_yes c99 h
    refine lv_aload_n hx hb dX9_lookBoth_193 rfl (lv_at hl 0 rfl) ?_
    obtain ⟨o100, ho103, h⟩ := rq_i h
    refine r_getR hC hw kc_8 hi0 5 rfl lk_1074 dX9_lookBoth_194 rfl ho103 (fun a101 hi102 => ?_)
    refine lv_iload_n hx hb dX9_lookBoth_197 rfl (lv_at hl 1 rfl) ?_
    obtain ⟨hn104, h⟩ := ix_i h
    refine r_iald hC hw hi102 hn104 dX9_lookBoth_198 ?_
    refine lv_iconst (v := 1) hx hb dX9_lookBoth_199 (by decide) ?_
    refine lv_iand hx hb dX9_lookBoth_200 ?_
    refine lv_iconst (v := 1) hx hb dX9_lookBoth_201 (by decide) ?_
    refine lv_icmp_ne (tgt := 216) hx hb dX9_lookBoth_202 (by decide) (fun c105 => ?_) (fun c105 => ?_)
    · have h := i_no c105 h
      refine lv_iconst (v := 0) hx hb dX9_lookBoth_216 (by decide) ?_
      cases h
      exact r_iret hC hw dX9_lookBoth_217
    · have h := i_yes c105 h
      refine lv_aload_n hx hb dX9_lookBoth_205 rfl (lv_at hl 0 rfl) ?_
      refine lv_iload hx hb dX9_lookBoth_206 (lv_at hl 3 rfl) ?_
      refine lv_lconst (v := 0) hx hb dX9_lookBoth_208 (by decide) ?_
      refine lv_iload_n hx hb dX9_lookBoth_209 rfl (lv_at hl 2 rfl) ?_
      obtain ⟨r107, hq106, h⟩ := pq_i h
      refine r_cS (st' := [.long r107, .long (0 : Int64), .int x4, .ref a0]) [.int x2] [.long (0 : Int64), .int x4, .ref a0] hC hw (k_X9_mostOf _ hq106) mk_X9_mostOf lk_1571 ⟨Nat.le_trans (by decide) hR.1, Nat.le_trans (by decide) hR.2⟩ ⟨Nat.zero_le _, Nat.zero_le _⟩ rfl hl.1 rfl rfl (Nat.le_of_ble_eq_true rfl) dX9_lookBoth_210 (fun hP H locs hw => ?_)
      obtain ⟨_, D109, hq108, h⟩ := cq_i h
      refine r_cV (st' := []) [.int x4, .long (0 : Int64), .long r107] [] hC hw kc_8 hi0 (k_X9_number _ hi0 hq108) mk_X9_number lk_1493 ⟨Nat.le_trans (by decide) hR.1, Nat.le_trans (by decide) hR.2⟩ ⟨Nat.zero_le _, Nat.zero_le _⟩ rfl hl.1 rfl rfl (Nat.le_of_ble_eq_true rfl) dX9_lookBoth_213 (fun hP H locs hw => ?_)
      refine lv_iconst (v := 0) hx hb dX9_lookBoth_216 (by decide) ?_
      cases h
      exact r_iret hC hw dX9_lookBoth_217
  · have h := i_no c99 h
    refine lv_aload_n hx hb dX9_lookBoth_180 rfl (lv_at hl 0 rfl) ?_
    refine lv_iconst (v := 0) hx hb dX9_lookBoth_181 (by decide) ?_
    refine lv_lconst (v := 0) hx hb dX9_lookBoth_182 (by decide) ?_
    refine lv_iload_n hx hb dX9_lookBoth_183 rfl (lv_at hl 2 rfl) ?_
    obtain ⟨r111, hq110, h⟩ := pq_i h
    refine r_cS (st' := [.long r111, .long (0 : Int64), .int (0 : Int32), .ref a0]) [.int x2] [.long (0 : Int64), .int (0 : Int32), .ref a0] hC hw (k_X9_mostOf _ hq110) mk_X9_mostOf lk_1571 ⟨Nat.le_trans (by decide) hR.1, Nat.le_trans (by decide) hR.2⟩ ⟨Nat.zero_le _, Nat.zero_le _⟩ rfl hl.1 rfl rfl (Nat.le_of_ble_eq_true rfl) dX9_lookBoth_184 (fun hP H locs hw => ?_)
    obtain ⟨_, D113, hq112, h⟩ := cq_i h
    refine r_cV (st' := []) [.int (0 : Int32), .long (0 : Int64), .long r111] [] hC hw kc_8 hi0 (k_X9_number _ hi0 hq112) mk_X9_number lk_1493 ⟨Nat.le_trans (by decide) hR.1, Nat.le_trans (by decide) hR.2⟩ ⟨Nat.zero_le _, Nat.zero_le _⟩ rfl hl.1 rfl rfl (Nat.le_of_ble_eq_true rfl) dX9_lookBoth_187 (fun hP H locs hw => ?_)
    refine lv_goto (tgt := 216) hx hb dX9_lookBoth_190 (by decide) ?_
    refine lv_iconst (v := 0) hx hb dX9_lookBoth_216 (by decide) ?_
    cases h
    exact r_iret hC hw dX9_lookBoth_217
set_option maxHeartbeats 4000000 in
set_option maxRecDepth 100000 in
theorem w_X9_lookBoth_118 {r : Int32} {D' : dt} (hC : Cx RX9 cX9_lookBoth 8 (some .int) p s m args meth c) (hR : 2 ≤ R.frames ∧ 44 ≤ R.locals) : ∀ (o0 a0 : Nat) (x1 : Int32) (x2 : Int32) (x3 : Int32) (x4 : Int32) (x5 : Int32) (x6 : Int32) (D : dt) (H : Heap) (locs : List Loc) (ls : Array Slot), Is S ad o0 a0 8 → Wd G cA S D ad A s H locs → lv_has ls 8 [(0, .ref a0), (1, .int x1), (2, .int x2), (3, .int x3), (4, .int x4), (5, .int x5), (6, .int x6)] → f_X9_lookBoth_118 S o0 x1 x2 x3 x4 x5 x6 D = some (r, D') → W p l e R s m args below meth c H locs 0 0 (MQ below (Qn (some (.int r)) True (wpost G cA S D' ad A) A) args s 0 0 A) (F0 m 118 ls []) := by
  obtain ⟨hx, hb, -⟩ := id hC
  intro o0 a0 x1 x2 x3 x4 x5 x6 D H locs ls hi0 hw hl h
  unfold f_X9_lookBoth_118 at h
  refine lv_iload hx hb dX9_lookBoth_118 (lv_at hl 6 rfl) ?_
  refine lv_if_le (tgt := 126) hx hb dX9_lookBoth_120 (by decide) (fun c114 => ?_) (fun c114 => ?_)
  · have h := i_yes c114 h
    refine lv_aload_n hx hb dX9_lookBoth_126 rfl (lv_at hl 0 rfl) ?_
    obtain ⟨o115, ho118, h⟩ := rq_i h
    refine r_getR hC hw kc_8 hi0 40 rfl lk_1109 dX9_lookBoth_127 rfl ho118 (fun a116 hi117 => ?_)
    refine lv_iload_n hx hb dX9_lookBoth_130 rfl (lv_at hl 3 rfl) ?_
    obtain ⟨hn119, h⟩ := ix_i h
    refine r_iald hC hw hi117 hn119 dX9_lookBoth_131 ?_
    refine lv_iconst (v := 3) hx hb dX9_lookBoth_132 (by decide) ?_
    refine lv_icmp_ne (tgt := 175) hx hb dX9_lookBoth_133 (by decide) (fun c120 => ?_) (fun c120 => ?_)
    · have h := i_no c120 h
      exact w_X9_lookBoth_175 hC hR o0 a0 x1 x2 x4 x5 _ _ _ _ hi0 hw (lv_sub hl [0, 1, 2, 4, 5] rfl) h
    · have h := i_yes c120 h
      refine lv_aload_n hx hb dX9_lookBoth_136 rfl (lv_at hl 0 rfl) ?_
      obtain ⟨o121, ho124, h⟩ := rq_i h
      refine r_getR hC hw kc_8 hi0 41 rfl lk_1110 dX9_lookBoth_137 rfl ho124 (fun a122 hi123 => ?_)
      refine lv_iload_n hx hb dX9_lookBoth_140 rfl (lv_at hl 3 rfl) ?_
      obtain ⟨hn125, h⟩ := ix_i h
      refine r_lald hC hw hi123 hn125 dX9_lookBoth_141 ?_
      refine lv_l2i (v := (gL D o121 x3.toNatClampNeg).toInt32) hx hb dX9_lookBoth_142 rfl ?_
      refine lv_aload_n hx hb dX9_lookBoth_143 rfl (lv_at hl 0 rfl) ?_
      obtain ⟨o126, ho129, h⟩ := rq_i h
      refine r_getR hC hw kc_8 hi0 4 rfl lk_1073 dX9_lookBoth_144 rfl ho129 (fun a127 hi128 => ?_)
      refine lv_iload_n hx hb dX9_lookBoth_147 rfl (lv_at hl 1 rfl) ?_
      obtain ⟨hn130, h⟩ := ix_i h
      refine r_iald hC hw hi128 hn130 dX9_lookBoth_148 ?_
      refine lv_iadd hx hb dX9_lookBoth_149 ?_
      refine lv_sipush (v := 512) hx hb dX9_lookBoth_150 (by decide) ?_
      refine lv_iadd hx hb dX9_lookBoth_153 ?_
      refine lv_topi (fun y131 ey131 => ?_)
      have h := nm_i h y131 ey131
      refine lv_istore (lv' := [(7, .int y131), (0, .ref a0), (1, .int x1), (2, .int x2), (3, .int x3), (4, .int x4), (5, .int x5), (6, .int x6)]) hx hb dX9_lookBoth_154 hl (by decide) rfl (fun ls hl => ?_)
      refine lv_aload_n hx hb dX9_lookBoth_156 rfl (lv_at hl 1 rfl) ?_
      refine lv_iload hx hb dX9_lookBoth_157 (lv_at hl 0 rfl) ?_
      refine lv_iload_n hx hb dX9_lookBoth_159 rfl (lv_at hl 3 rfl) ?_
      obtain ⟨r133, D134, hq132, h⟩ := cq_i h
      refine r_cV (st' := [.int r133]) [.int y131, .int x2] [] hC hw kc_8 hi0 (k_X9_areKnown _ hi0 hq132) mk_X9_areKnown lk_1563 ⟨Nat.le_trans (by decide) hR.1, Nat.le_trans (by decide) hR.2⟩ ⟨Nat.zero_le _, Nat.zero_le _⟩ rfl hl.1 rfl rfl (Nat.le_of_ble_eq_true rfl) dX9_lookBoth_160 (fun hP H locs hw => ?_)
      refine lv_if_ne (tgt := 168) hx hb dX9_lookBoth_163 (by decide) (fun c135 => ?_) (fun c135 => ?_)
      · have h := i_no c135 h
        refine lv_aload_n hx hb dX9_lookBoth_168 rfl (lv_at hl 1 rfl) ?_
        refine lv_iload hx hb dX9_lookBoth_169 (lv_at hl 0 rfl) ?_
        refine lv_iload_n hx hb dX9_lookBoth_171 rfl (lv_at hl 3 rfl) ?_
        obtain ⟨_, D137, hq136, h⟩ := cq_i h
        refine r_cV (st' := []) [.int y131, .int x2] [] hC hw kc_8 hi0 (k_X9_put_ _ hi0 hq136) mk_X9_put_ lk_1580 ⟨Nat.le_trans (by decide) hR.1, Nat.le_trans (by decide) hR.2⟩ ⟨Nat.zero_le _, Nat.zero_le _⟩ rfl hl.1 rfl rfl (Nat.le_of_ble_eq_true rfl) dX9_lookBoth_172 (fun hP H locs hw => ?_)
        exact w_X9_lookBoth_175 hC hR o0 a0 x1 x2 x4 x5 _ _ _ _ hi0 hw (lv_sub hl [1, 2, 3, 5, 6] rfl) h
      · have h := i_yes c135 h
        refine lv_iconst (v := 4) hx hb dX9_lookBoth_166 (by decide) ?_
        cases h
        exact r_iret hC hw dX9_lookBoth_167
  · have h := i_no c114 h
    refine lv_iload hx hb dX9_lookBoth_123 (lv_at hl 6 rfl) ?_
    cases h
    exact r_iret hC hw dX9_lookBoth_125
set_option maxHeartbeats 4000000 in
set_option maxRecDepth 100000 in
theorem w_X9_lookBoth_69 {r : Int32} {D' : dt} (hC : Cx RX9 cX9_lookBoth 8 (some .int) p s m args meth c) (hR : 2 ≤ R.frames ∧ 44 ≤ R.locals) : ∀ (o0 a0 : Nat) (x1 : Int32) (x2 : Int32) (x3 : Int32) (x4 : Int32) (x5 : Int32) (D : dt) (H : Heap) (locs : List Loc) (ls : Array Slot), Is S ad o0 a0 8 → Wd G cA S D ad A s H locs → lv_has ls 8 [(0, .ref a0), (1, .int x1), (2, .int x2), (3, .int x3), (4, .int x4), (5, .int x5)] → f_X9_lookBoth_69 S o0 x1 x2 x3 x4 x5 D = some (r, D') → W p l e R s m args below meth c H locs 0 0 (MQ below (Qn (some (.int r)) True (wpost G cA S D' ad A) A) args s 0 0 A) (F0 m 69 ls []) := by
  obtain ⟨hx, hb, -⟩ := id hC
  intro o0 a0 x1 x2 x3 x4 x5 D H locs ls hi0 hw hl h
  unfold f_X9_lookBoth_69 at h
  refine lv_aload_n hx hb dX9_lookBoth_69 rfl (lv_at hl 0 rfl) ?_
  refine lv_iload_n hx hb dX9_lookBoth_70 rfl (lv_at hl 3 rfl) ?_
  refine lv_aload_n hx hb dX9_lookBoth_71 rfl (lv_at hl 0 rfl) ?_
  obtain ⟨o138, ho141, h⟩ := rq_i h
  refine r_getR hC hw kc_8 hi0 4 rfl lk_1073 dX9_lookBoth_72 rfl ho141 (fun a139 hi140 => ?_)
  refine lv_iload_n hx hb dX9_lookBoth_75 rfl (lv_at hl 1 rfl) ?_
  obtain ⟨hn142, h⟩ := ix_i h
  refine r_iald hC hw hi140 hn142 dX9_lookBoth_76 ?_
  refine lv_iload_n hx hb dX9_lookBoth_77 rfl (lv_at hl 2 rfl) ?_
  refine lv_iconst (v := 1) hx hb dX9_lookBoth_78 (by decide) ?_
  obtain ⟨r144, D145, hq143, h⟩ := cq_i h
  refine r_cV (st' := [.int r144]) [.int x3, .int (gI D o138 x1.toNatClampNeg), .int x2, .int (1 : Int32)] [] hC hw kc_8 hi0 (k_X9_access _ hi0 hq143) mk_X9_access lk_1558 ⟨Nat.le_trans (by decide) hR.1, Nat.le_trans (by decide) hR.2⟩ ⟨Nat.zero_le _, Nat.zero_le _⟩ rfl hl.1 rfl rfl (Nat.le_of_ble_eq_true rfl) dX9_lookBoth_79 (fun hP H locs hw => ?_)
  refine lv_istore (lv' := [(6, .int r144), (0, .ref a0), (1, .int x1), (2, .int x2), (3, .int x3), (4, .int x4), (5, .int x5)]) hx hb dX9_lookBoth_82 hl (by decide) rfl (fun ls hl => ?_)
  refine lv_iload hx hb dX9_lookBoth_84 (lv_at hl 0 rfl) ?_
  refine lv_iconst (v := 3) hx hb dX9_lookBoth_86 (by decide) ?_
  refine lv_icmp_eq (tgt := 116) hx hb dX9_lookBoth_87 (by decide) (fun c146 => ?_) (fun c146 => ?_)
  · have h := i_yes c146 h
    refine lv_iconst (v := 3) hx hb dX9_lookBoth_116 (by decide) ?_
    cases h
    exact r_iret hC hw dX9_lookBoth_117
  · have h := i_no c146 h
    refine lv_aload_n hx hb dX9_lookBoth_90 rfl (lv_at hl 1 rfl) ?_
    obtain ⟨o147, ho150, h⟩ := rq_i h
    refine r_getR hC hw kc_8 hi0 40 rfl lk_1109 dX9_lookBoth_91 rfl ho150 (fun a148 hi149 => ?_)
    refine lv_iload hx hb dX9_lookBoth_94 (lv_at hl 5 rfl) ?_
    obtain ⟨hn151, h⟩ := ix_i h
    refine r_iald hC hw hi149 hn151 dX9_lookBoth_96 ?_
    refine lv_iconst (v := 1) hx hb dX9_lookBoth_97 (by decide) ?_
    refine lv_icmp_ne (tgt := 116) hx hb dX9_lookBoth_98 (by decide) (fun c152 => ?_) (fun c152 => ?_)
    · have h := i_no c152 h
      refine lv_iconst (v := 3) hx hb dX9_lookBoth_116 (by decide) ?_
      cases h
      exact r_iret hC hw dX9_lookBoth_117
    · have h := i_yes c152 h
      refine lv_iload hx hb dX9_lookBoth_101 (lv_at hl 6 rfl) ?_
      refine lv_if_eq (tgt := 118) hx hb dX9_lookBoth_103 (by decide) (fun c153 => ?_) (fun c153 => ?_)
      · have h := i_yes c153 h
        exact w_X9_lookBoth_118 hC hR o0 a0 x1 x2 x3 x4 x5 r144 _ _ _ _ hi0 hw (lv_sub hl [1, 2, 3, 4, 5, 6, 0] rfl) h
      · have h := i_no c153 h
        refine lv_aload_n hx hb dX9_lookBoth_106 rfl (lv_at hl 1 rfl) ?_
        obtain ⟨o154, ho157, h⟩ := rq_i h
        refine r_getR hC hw kc_8 hi0 40 rfl lk_1109 dX9_lookBoth_107 rfl ho157 (fun a155 hi156 => ?_)
        refine lv_iconst (v := 0) hx hb dX9_lookBoth_110 (by decide) ?_
        obtain ⟨hn158, h⟩ := ix_i h
        refine r_iald hC hw hi156 hn158 dX9_lookBoth_111 ?_
        refine lv_iconst (v := 1) hx hb dX9_lookBoth_112 (by decide) ?_
        refine lv_icmp_eq (tgt := 118) hx hb dX9_lookBoth_113 (by decide) (fun c159 => ?_) (fun c159 => ?_)
        · have h := i_yes c159 h
          exact w_X9_lookBoth_118 hC hR o0 a0 x1 x2 x3 x4 x5 r144 _ _ _ _ hi0 hw (lv_sub hl [1, 2, 3, 4, 5, 6, 0] rfl) h
        · have h := i_no c159 h
          refine lv_iconst (v := 3) hx hb dX9_lookBoth_116 (by decide) ?_
          cases h
          exact r_iret hC hw dX9_lookBoth_117
set_option maxHeartbeats 4000000 in
set_option maxRecDepth 100000 in
theorem w_X9_lookBoth_32 {r : Int32} {D' : dt} (hC : Cx RX9 cX9_lookBoth 8 (some .int) p s m args meth c) (hR : 2 ≤ R.frames ∧ 44 ≤ R.locals) : ∀ (o0 a0 : Nat) (x1 : Int32) (x2 : Int32) (x3 : Int32) (x4 : Int32) (xs0 : Int32) (D : dt) (H : Heap) (locs : List Loc) (ls : Array Slot), Is S ad o0 a0 8 → Wd G cA S D ad A s H locs → lv_has ls 8 [(0, .ref a0), (1, .int x1), (2, .int x2), (3, .int x3), (4, .int x4)] → f_X9_lookBoth_32 S o0 x1 x2 x3 x4 xs0 D = some (r, D') → W p l e R s m args below meth c H locs 0 0 (MQ below (Qn (some (.int r)) True (wpost G cA S D' ad A) A) args s 0 0 A) (F0 m 32 ls [.int xs0]) := by
  obtain ⟨hx, hb, -⟩ := id hC
  intro o0 a0 x1 x2 x3 x4 xs0 D H locs ls hi0 hw hl h
  unfold f_X9_lookBoth_32 at h
  refine lv_istore (lv' := [(5, .int xs0), (0, .ref a0), (1, .int x1), (2, .int x2), (3, .int x3), (4, .int x4)]) hx hb dX9_lookBoth_32 hl (by decide) rfl (fun ls hl => ?_)
  refine lv_aload_n hx hb dX9_lookBoth_34 rfl (lv_at hl 1 rfl) ?_
  obtain ⟨o160, ho163, h⟩ := rq_i h
  refine r_getR hC hw kc_8 hi0 40 rfl lk_1109 dX9_lookBoth_35 rfl ho163 (fun a161 hi162 => ?_)
  refine lv_iload_n hx hb dX9_lookBoth_38 rfl (lv_at hl 4 rfl) ?_
  obtain ⟨hn164, h⟩ := ix_i h
  refine r_iald hC hw hi162 hn164 dX9_lookBoth_39 ?_
  refine lv_if_eq (tgt := 67) hx hb dX9_lookBoth_40 (by decide) (fun c165 => ?_) (fun c165 => ?_)
  · have h := i_yes c165 h
    refine lv_iconst (v := 2) hx hb dX9_lookBoth_67 (by decide) ?_
    cases h
    exact r_iret hC hw dX9_lookBoth_68
  · have h := i_no c165 h
    refine lv_aload_n hx hb dX9_lookBoth_43 rfl (lv_at hl 1 rfl) ?_
    obtain ⟨o166, ho169, h⟩ := rq_i h
    refine r_getR hC hw kc_8 hi0 40 rfl lk_1109 dX9_lookBoth_44 rfl ho169 (fun a167 hi168 => ?_)
    refine lv_iload hx hb dX9_lookBoth_47 (lv_at hl 5 rfl) ?_
    obtain ⟨hn170, h⟩ := ix_i h
    refine r_iald hC hw hi168 hn170 dX9_lookBoth_49 ?_
    refine lv_if_eq (tgt := 67) hx hb dX9_lookBoth_50 (by decide) (fun c171 => ?_) (fun c171 => ?_)
    · have h := i_yes c171 h
      refine lv_iconst (v := 2) hx hb dX9_lookBoth_67 (by decide) ?_
      cases h
      exact r_iret hC hw dX9_lookBoth_68
    · have h := i_no c171 h
      refine lv_iload hx hb dX9_lookBoth_53 (lv_at hl 0 rfl) ?_
      refine lv_if_eq (tgt := 69) hx hb dX9_lookBoth_55 (by decide) (fun c172 => ?_) (fun c172 => ?_)
      · have h := i_yes c172 h
        exact w_X9_lookBoth_69 hC hR o0 a0 x1 x2 x3 x4 xs0 _ _ _ _ hi0 hw (lv_sub hl [1, 2, 3, 4, 5, 0] rfl) h
      · have h := i_no c172 h
        refine lv_aload_n hx hb dX9_lookBoth_58 rfl (lv_at hl 1 rfl) ?_
        obtain ⟨o173, ho176, h⟩ := rq_i h
        refine r_getR hC hw kc_8 hi0 40 rfl lk_1109 dX9_lookBoth_59 rfl ho176 (fun a174 hi175 => ?_)
        refine lv_iconst (v := 0) hx hb dX9_lookBoth_62 (by decide) ?_
        obtain ⟨hn177, h⟩ := ix_i h
        refine r_iald hC hw hi175 hn177 dX9_lookBoth_63 ?_
        refine lv_if_ne (tgt := 69) hx hb dX9_lookBoth_64 (by decide) (fun c178 => ?_) (fun c178 => ?_)
        · have h := i_no c178 h
          exact w_X9_lookBoth_69 hC hR o0 a0 x1 x2 x3 x4 xs0 _ _ _ _ hi0 hw (lv_sub hl [1, 2, 3, 4, 5, 0] rfl) h
        · have h := i_yes c178 h
          refine lv_iconst (v := 2) hx hb dX9_lookBoth_67 (by decide) ?_
          cases h
          exact r_iret hC hw dX9_lookBoth_68
set_option maxHeartbeats 4000000 in
set_option maxRecDepth 100000 in
theorem w_X9_lookBoth_0 {r : Int32} {D' : dt} (hC : Cx RX9 cX9_lookBoth 8 (some .int) p s m args meth c) (hR : 2 ≤ R.frames ∧ 44 ≤ R.locals) : ∀ (o0 a0 : Nat) (x1 : Int32) (x2 : Int32) (D : dt) (H : Heap) (locs : List Loc) (ls : Array Slot), Is S ad o0 a0 8 → Wd G cA S D ad A s H locs → lv_has ls 8 [(0, .ref a0), (1, .int x1), (2, .int x2)] → f_X9_lookBoth S o0 x1 x2 D = some (r, D') → W p l e R s m args below meth c H locs 0 0 (MQ below (Qn (some (.int r)) True (wpost G cA S D' ad A) A) args s 0 0 A) (F0 m 0 ls []) := by
  obtain ⟨hx, hb, -⟩ := id hC
  intro o0 a0 x1 x2 D H locs ls hi0 hw hl h
  unfold f_X9_lookBoth at h
  refine lv_aload_n hx hb dX9_lookBoth_0 rfl (lv_at hl 0 rfl) ?_
  obtain ⟨o179, ho182, h⟩ := rq_i h
  refine r_getR hC hw kc_8 hi0 2 rfl lk_1071 dX9_lookBoth_1 rfl ho182 (fun a180 hi181 => ?_)
  refine lv_iload_n hx hb dX9_lookBoth_4 rfl (lv_at hl 1 rfl) ?_
  obtain ⟨hn183, h⟩ := ix_i h
  refine r_iald hC hw hi181 hn183 dX9_lookBoth_5 ?_
  refine lv_topi (fun y184 ey184 => ?_)
  have h := nm_i h y184 ey184
  refine lv_istore_n (lv' := [(3, .int y184), (0, .ref a0), (1, .int x1), (2, .int x2)]) hx hb dX9_lookBoth_6 rfl hl (by decide) rfl (fun ls hl => ?_)
  refine lv_aload_n hx hb dX9_lookBoth_7 rfl (lv_at hl 1 rfl) ?_
  obtain ⟨o185, ho188, h⟩ := rq_i h
  refine r_getR hC hw kc_8 hi0 3 rfl lk_1072 dX9_lookBoth_8 rfl ho188 (fun a186 hi187 => ?_)
  refine lv_iload_n hx hb dX9_lookBoth_11 rfl (lv_at hl 2 rfl) ?_
  obtain ⟨hn189, h⟩ := ix_i h
  refine r_iald hC hw hi187 hn189 dX9_lookBoth_12 ?_
  refine lv_topi (fun y190 ey190 => ?_)
  have h := nm_i h y190 ey190
  refine lv_istore (lv' := [(4, .int y190), (3, .int y184), (0, .ref a0), (1, .int x1), (2, .int x2)]) hx hb dX9_lookBoth_13 hl (by decide) rfl (fun ls hl => ?_)
  refine lv_aload_n hx hb dX9_lookBoth_15 rfl (lv_at hl 2 rfl) ?_
  obtain ⟨o191, ho194, h⟩ := rq_i h
  refine r_getR hC hw kc_8 hi0 5 rfl lk_1074 dX9_lookBoth_16 rfl ho194 (fun a192 hi193 => ?_)
  refine lv_iload_n hx hb dX9_lookBoth_19 rfl (lv_at hl 3 rfl) ?_
  obtain ⟨hn195, h⟩ := ix_i h
  refine r_iald hC hw hi193 hn195 dX9_lookBoth_20 ?_
  refine lv_sipush (v := 241) hx hb dX9_lookBoth_21 (by decide) ?_
  refine lv_icmp_ne (tgt := 31) hx hb dX9_lookBoth_24 (by decide) (fun c196 => ?_) (fun c196 => ?_)
  · have h := i_no c196 h
    refine lv_iconst (v := 0) hx hb dX9_lookBoth_31 (by decide) ?_
    exact w_X9_lookBoth_32 hC hR o0 a0 x1 x2 y184 y190 (0 : Int32) _ _ _ _ hi0 hw (lv_sub hl [2, 3, 4, 1, 0] rfl) h
  · have h := i_yes c196 h
    refine lv_iconst (v := 1) hx hb dX9_lookBoth_27 (by decide) ?_
    refine lv_goto (tgt := 32) hx hb dX9_lookBoth_28 (by decide) ?_
    exact w_X9_lookBoth_32 hC hR o0 a0 x1 x2 y184 y190 (1 : Int32) _ _ _ _ hi0 hw (lv_sub hl [2, 3, 4, 1, 0] rfl) h
set_option maxHeartbeats 4000000 in
set_option maxRecDepth 100000 in
theorem k_X9_lookBoth {l : Launch} {G : va_G} {cA : Nat → ClassId} {S : sh} {D D' : dt} {ad : Nat → Nat} (sz : Nat) {o0 a0 : Nat} {x1 : Int32} {x2 : Int32} {r : Int32} (hi0 : Is S ad o0 a0 8) (h : f_X9_lookBoth S o0 x1 x2 D = some (r, D')) : Co l yX9_lookBoth (Cond.code yX9_lookBoth cX9_lookBoth 8 (some .int) :: tb0) 2 44 [.ref a0, .int x1, .int x2] G cA S D ad sz (some (.int r)) True D' := by
  refine Met.ofW (cc := cX9_lookBoth) (maxL := 8) (ret := (some .int)) (by decide) rfl ?_
  intro p e s m args below meth c s₁ B hml hv
  obtain ⟨rfl, hsz, hP, hK, hD0, hT, hX⟩ := hv
  subst hsz
  have hts := atoms_spec (ws := Cond.code yX9_lookBoth cX9_lookBoth 8 (some .int) :: tb0) B.pre
  have hC : Cx RX9 cX9_lookBoth 8 (some .int) p s m _ meth c := ⟨B.exec, B.bytes, hml, findClass_of_methodNamed B.named, fun w q => hts w (List.mem_cons_of_mem _ q), B.returns, B.notSynchronized⟩
  have hw := Wd.entry hP hK hD0 hT hX
  have hl := lv_entry ([.ref a0, .int x1, .int x2]) (n := 8) (Nat.le_of_ble_eq_true rfl)
  rw [lg_entry_eq]
  exact w_X9_lookBoth_0 hC ⟨Nat.le_refl _, Nat.le_refl _⟩ o0 a0 x1 x2 D _ _ _ hi0 hw hl h
set_option maxHeartbeats 4000000 in
set_option maxRecDepth 100000 in
theorem w_X9_lookWide_161 {r : Int32} {D' : dt} (hC : Cx RX9 cX9_lookWide 5 (some .int) p s m args meth c) (hR : 5 ≤ R.frames ∧ 121 ≤ R.locals) : ∀ (o0 a0 : Nat) (x1 : Int32) (D : dt) (H : Heap) (locs : List Loc) (ls : Array Slot), Is S ad o0 a0 8 → Wd G cA S D ad A s H locs → lv_has ls 5 [(0, .ref a0), (1, .int x1)] → f_X9_lookWide_161 S o0 x1 D = some (r, D') → W p l e R s m args below meth c H locs 0 0 (MQ below (Qn (some (.int r)) True (wpost G cA S D' ad A) A) args s 0 0 A) (F0 m 161 ls []) := by
  obtain ⟨hx, hb, -⟩ := id hC
  intro o0 a0 x1 D H locs ls hi0 hw hl h
  unfold f_X9_lookWide_161 at h
  refine lv_aload_n hx hb dX9_lookWide_161 rfl (lv_at hl 0 rfl) ?_
  refine lv_iconst (v := 0) hx hb dX9_lookWide_162 (by decide) ?_
  refine lv_iload_n hx hb dX9_lookWide_163 rfl (lv_at hl 1 rfl) ?_
  refine lv_iconst (v := 2) hx hb dX9_lookWide_164 (by decide) ?_
  refine lv_iadd hx hb dX9_lookWide_165 ?_
  obtain ⟨r84, D85, hq83, h⟩ := cq_i h
  refine r_cV (st' := [.int r84]) [.int (0 : Int32), .int (x1 + (2 : Int32))] [] hC hw kc_8 hi0 (k_X9_onward _ hi0 hq83) mk_X9_onward lk_1516 ⟨Nat.le_trans (by decide) hR.1, Nat.le_trans (by decide) hR.2⟩ ⟨Nat.zero_le _, Nat.zero_le _⟩ rfl hl.1 rfl rfl (Nat.le_of_ble_eq_true rfl) dX9_lookWide_166 (fun hP H locs hw => ?_)
  cases h
  exact r_iret hC hw dX9_lookWide_169
set_option maxHeartbeats 4000000 in
set_option maxRecDepth 100000 in
theorem w_X9_lookWide_65 {r : Int32} {D' : dt} (hC : Cx RX9 cX9_lookWide 5 (some .int) p s m args meth c) (hR : 5 ≤ R.frames ∧ 121 ≤ R.locals) : ∀ (o0 a0 : Nat) (x1 : Int32) (x2 : Int32) (D : dt) (H : Heap) (locs : List Loc) (ls : Array Slot), Is S ad o0 a0 8 → Wd G cA S D ad A s H locs → lv_has ls 5 [(0, .ref a0), (1, .int x1), (2, .int x2)] → f_X9_lookWide_65 S o0 x1 x2 D = some (r, D') → W p l e R s m args below meth c H locs 0 0 (MQ below (Qn (some (.int r)) True (wpost G cA S D' ad A) A) args s 0 0 A) (F0 m 65 ls []) := by
  obtain ⟨hx, hb, -⟩ := id hC
  intro o0 a0 x1 x2 D H locs ls hi0 hw hl h
  unfold f_X9_lookWide_65 at h
  refine lv_iload_n hx hb dX9_lookWide_65 rfl (lv_at hl 2 rfl) ?_
  refine lv_if_ne (tgt := 72) hx hb dX9_lookWide_66 (by decide) (fun c86 => ?_) (fun c86 => ?_)
  · have h := i_no c86 h
    refine lv_aload_n hx hb dX9_lookWide_72 rfl (lv_at hl 0 rfl) ?_
    obtain ⟨o87, ho90, h⟩ := rq_i h
    refine r_getR hC hw kc_8 hi0 3 rfl lk_1072 dX9_lookWide_73 rfl ho90 (fun a88 hi89 => ?_)
    refine lv_iload_n hx hb dX9_lookWide_76 rfl (lv_at hl 1 rfl) ?_
    obtain ⟨hn91, h⟩ := ix_i h
    refine r_iald hC hw hi89 hn91 dX9_lookWide_77 ?_
    refine lv_iconst (v := 1) hx hb dX9_lookWide_78 (by decide) ?_
    refine lv_icmp_ne (tgt := 124) hx hb dX9_lookWide_79 (by decide) (fun c92 => ?_) (fun c92 => ?_)
    · have h := i_no c92 h
      refine lv_aload_n hx hb dX9_lookWide_124 rfl (lv_at hl 0 rfl) ?_
      obtain ⟨o93, ho96, h⟩ := rq_i h
      refine r_getR hC hw kc_8 hi0 5 rfl lk_1074 dX9_lookWide_125 rfl ho96 (fun a94 hi95 => ?_)
      refine lv_iload_n hx hb dX9_lookWide_128 rfl (lv_at hl 1 rfl) ?_
      obtain ⟨hn97, h⟩ := ix_i h
      refine r_iald hC hw hi95 hn97 dX9_lookWide_129 ?_
      refine lv_i2l (v := (gI D o93 x1.toNatClampNeg).toInt64) hx hb dX9_lookWide_130 rfl ?_
      refine lv_ldc2 (v := 4294967295) hx hb hC.2.2.2.1 (hC.2.2.2.2.1 _ lk_1344) dX9_lookWide_131 ?_
      refine lv_land hx hb dX9_lookWide_134 ?_
      refine lv_aload_n hx hb dX9_lookWide_135 rfl (lv_at hl 0 rfl) ?_
      obtain ⟨o98, ho101, h⟩ := rq_i h
      refine r_getR hC hw kc_8 hi0 5 rfl lk_1074 dX9_lookWide_136 rfl ho101 (fun a99 hi100 => ?_)
      refine lv_iload_n hx hb dX9_lookWide_139 rfl (lv_at hl 1 rfl) ?_
      refine lv_iconst (v := 1) hx hb dX9_lookWide_140 (by decide) ?_
      refine lv_iadd hx hb dX9_lookWide_141 ?_
      obtain ⟨hn102, h⟩ := ix_i h
      refine r_iald hC hw hi100 hn102 dX9_lookWide_142 ?_
      refine lv_i2l (v := (gI D o98 (x1 + (1 : Int32)).toNatClampNeg).toInt64) hx hb dX9_lookWide_143 rfl ?_
      refine lv_bipush (v := 32) hx hb dX9_lookWide_144 (by decide) ?_
      refine lv_lshl (v := j_lshl ((gI D o98 (x1 + (1 : Int32)).toNatClampNeg).toInt64) (32 : Int32)) hx hb dX9_lookWide_146 rfl ?_
      refine lv_lor hx hb dX9_lookWide_147 ?_
      refine lv_topl (fun y103 ey103 => ?_)
      have h := nm_i h y103 ey103
      refine lv_lstore_n (lv' := [(3, .long y103), (0, .ref a0), (1, .int x1), (2, .int x2)]) hx hb dX9_lookWide_148 rfl hl (by decide) rfl (fun ls hl => ?_)
      refine lv_aload_n hx hb dX9_lookWide_149 rfl (lv_at hl 1 rfl) ?_
      refine lv_aload_n hx hb dX9_lookWide_150 rfl (lv_at hl 1 rfl) ?_
      obtain ⟨o104, ho107, h⟩ := rq_i h
      refine r_getR hC hw kc_8 hi0 2 rfl lk_1071 dX9_lookWide_151 rfl ho107 (fun a105 hi106 => ?_)
      refine lv_iload_n hx hb dX9_lookWide_154 rfl (lv_at hl 2 rfl) ?_
      obtain ⟨hn108, h⟩ := ix_i h
      refine r_iald hC hw hi106 hn108 dX9_lookWide_155 ?_
      refine lv_lload_n hx hb dX9_lookWide_156 rfl (lv_at hl 0 rfl) ?_
      refine lv_lload_n hx hb dX9_lookWide_157 rfl (lv_at hl 0 rfl) ?_
      obtain ⟨_, D110, hq109, h⟩ := cq_i h
      refine r_cV (st' := []) [.int (gI D o104 x1.toNatClampNeg), .long y103, .long y103] [] hC hw kc_8 hi0 (k_X9_number _ hi0 hq109) mk_X9_number lk_1493 ⟨Nat.le_trans (by decide) hR.1, Nat.le_trans (by decide) hR.2⟩ ⟨Nat.zero_le _, Nat.zero_le _⟩ rfl hl.1 rfl rfl (Nat.le_of_ble_eq_true rfl) dX9_lookWide_158 (fun hP H locs hw => ?_)
      exact w_X9_lookWide_161 hC hR o0 a0 x1 _ _ _ _ hi0 hw (lv_sub hl [1, 2] rfl) h
    · have h := i_yes c92 h
      refine lv_aload_n hx hb dX9_lookWide_82 rfl (lv_at hl 0 rfl) ?_
      refine lv_aload_n hx hb dX9_lookWide_83 rfl (lv_at hl 0 rfl) ?_
      obtain ⟨o111, ho114, h⟩ := rq_i h
      refine r_getR hC hw kc_8 hi0 2 rfl lk_1071 dX9_lookWide_84 rfl ho114 (fun a112 hi113 => ?_)
      refine lv_iload_n hx hb dX9_lookWide_87 rfl (lv_at hl 1 rfl) ?_
      obtain ⟨hn115, h⟩ := ix_i h
      refine r_iald hC hw hi113 hn115 dX9_lookWide_88 ?_
      obtain ⟨_, D117, hq116, h⟩ := cq_i h
      refine r_cV (st' := []) [.int (gI D o111 x1.toNatClampNeg)] [] hC hw kc_8 hi0 (k_X9_forget _ hi0 hq116) mk_X9_forget lk_1451 ⟨Nat.le_trans (by decide) hR.1, Nat.le_trans (by decide) hR.2⟩ ⟨Nat.zero_le _, Nat.zero_le _⟩ rfl hl.1 rfl rfl (Nat.le_of_ble_eq_true rfl) dX9_lookWide_89 (fun hP H locs hw => ?_)
      refine lv_aload_n hx hb dX9_lookWide_92 rfl (lv_at hl 0 rfl) ?_
      obtain ⟨o118, ho121, h⟩ := rq_i h
      refine r_getR hC hw kc_8 hi0 40 rfl lk_1109 dX9_lookWide_93 rfl ho121 (fun a119 hi120 => ?_)
      refine lv_aload_n hx hb dX9_lookWide_96 rfl (lv_at hl 0 rfl) ?_
      obtain ⟨o122, ho125, h⟩ := rq_i h
      refine r_getR hC hw kc_8 hi0 2 rfl lk_1071 dX9_lookWide_97 rfl ho125 (fun a123 hi124 => ?_)
      refine lv_iload_n hx hb dX9_lookWide_100 rfl (lv_at hl 1 rfl) ?_
      obtain ⟨hn126, h⟩ := ix_i h
      refine r_iald hC hw hi124 hn126 dX9_lookWide_101 ?_
      refine lv_iconst (v := 4) hx hb dX9_lookWide_102 (by decide) ?_
      obtain ⟨hn127, h⟩ := ix_i h
      refine r_ias hC hw hi120 hn127 dX9_lookWide_103 (fun D128 eD128 H locs hw => ?_)
      have h := nm_i h D128 eD128
      refine lv_aload_n hx hb dX9_lookWide_104 rfl (lv_at hl 0 rfl) ?_
      obtain ⟨o129, ho132, h⟩ := rq_i h
      refine r_getR hC hw kc_8 hi0 43 rfl lk_1112 dX9_lookWide_105 rfl ho132 (fun a130 hi131 => ?_)
      refine lv_aload_n hx hb dX9_lookWide_108 rfl (lv_at hl 0 rfl) ?_
      obtain ⟨o133, ho136, h⟩ := rq_i h
      refine r_getR hC hw kc_8 hi0 2 rfl lk_1071 dX9_lookWide_109 rfl ho136 (fun a134 hi135 => ?_)
      refine lv_iload_n hx hb dX9_lookWide_112 rfl (lv_at hl 1 rfl) ?_
      obtain ⟨hn137, h⟩ := ix_i h
      refine r_iald hC hw hi135 hn137 dX9_lookWide_113 ?_
      refine lv_aload_n hx hb dX9_lookWide_114 rfl (lv_at hl 0 rfl) ?_
      obtain ⟨o138, ho141, h⟩ := rq_i h
      refine r_getR hC hw kc_8 hi0 5 rfl lk_1074 dX9_lookWide_115 rfl ho141 (fun a139 hi140 => ?_)
      refine lv_iload_n hx hb dX9_lookWide_118 rfl (lv_at hl 1 rfl) ?_
      obtain ⟨hn142, h⟩ := ix_i h
      refine r_iald hC hw hi140 hn142 dX9_lookWide_119 ?_
      obtain ⟨hn143, h⟩ := ix_i h
      refine r_ias hC hw hi131 hn143 dX9_lookWide_120 (fun D144 eD144 H locs hw => ?_)
      have h := nm_i h D144 eD144
      refine lv_goto (tgt := 161) hx hb dX9_lookWide_121 (by decide) ?_
      exact w_X9_lookWide_161 hC hR o0 a0 x1 _ _ _ _ hi0 hw (lv_sub hl [0, 1] rfl) h
  · have h := i_yes c86 h
    refine lv_bipush (v := 6) hx hb dX9_lookWide_69 (by decide) ?_
    cases h
    exact r_iret hC hw dX9_lookWide_71
set_option maxHeartbeats 4000000 in
set_option maxRecDepth 100000 in
theorem w_X9_lookWide_32 {r : Int32} {D' : dt} (hC : Cx RX9 cX9_lookWide 5 (some .int) p s m args meth c) (hR : 5 ≤ R.frames ∧ 121 ≤ R.locals) : ∀ (o0 a0 : Nat) (x1 : Int32) (x2 : Int32) (D : dt) (H : Heap) (locs : List Loc) (ls : Array Slot), Is S ad o0 a0 8 → Wd G cA S D ad A s H locs → lv_has ls 5 [(0, .ref a0), (1, .int x1), (2, .int x2)] → f_X9_lookWide_32 S o0 x1 x2 D = some (r, D') → W p l e R s m args below meth c H locs 0 0 (MQ below (Qn (some (.int r)) True (wpost G cA S D' ad A) A) args s 0 0 A) (F0 m 32 ls []) := by
  obtain ⟨hx, hb, -⟩ := id hC
  intro o0 a0 x1 x2 D H locs ls hi0 hw hl h
  unfold f_X9_lookWide_32 at h
  refine lv_aload_n hx hb dX9_lookWide_32 rfl (lv_at hl 0 rfl) ?_
  obtain ⟨o145, ho148, h⟩ := rq_i h
  refine r_getR hC hw kc_8 hi0 3 rfl lk_1072 dX9_lookWide_33 rfl ho148 (fun a146 hi147 => ?_)
  refine lv_iload_n hx hb dX9_lookWide_36 rfl (lv_at hl 1 rfl) ?_
  obtain ⟨hn149, h⟩ := ix_i h
  refine r_iald hC hw hi147 hn149 dX9_lookWide_37 ?_
  refine lv_iconst (v := 1) hx hb dX9_lookWide_38 (by decide) ?_
  refine lv_icmp_ne (tgt := 65) hx hb dX9_lookWide_39 (by decide) (fun c150 => ?_) (fun c150 => ?_)
  · have h := i_no c150 h
    exact w_X9_lookWide_65 hC hR o0 a0 x1 x2 _ _ _ _ hi0 hw (lv_sub hl [0, 1, 2] rfl) h
  · have h := i_yes c150 h
    refine lv_aload_n hx hb dX9_lookWide_42 rfl (lv_at hl 0 rfl) ?_
    obtain ⟨o151, ho154, h⟩ := rq_i h
    refine r_getR hC hw kc_8 hi0 5 rfl lk_1074 dX9_lookWide_43 rfl ho154 (fun a152 hi153 => ?_)
    refine lv_iload_n hx hb dX9_lookWide_46 rfl (lv_at hl 1 rfl) ?_
    obtain ⟨hn155, h⟩ := ix_i h
    refine r_iald hC hw hi153 hn155 dX9_lookWide_47 ?_
    refine lv_i2l (v := (gI D o151 x1.toNatClampNeg).toInt64) hx hb dX9_lookWide_48 rfl ?_
    refine lv_lconst (v := 0) hx hb dX9_lookWide_49 (by decide) ?_
    refine lv_aload_n hx hb dX9_lookWide_50 rfl (lv_at hl 0 rfl) ?_
    refine r_gI hC hw kc_8 hi0 9 rfl lk_1078 dX9_lookWide_51 ?_
    refine lv_iconst (v := 1) hx hb dX9_lookWide_54 (by decide) ?_
    refine lv_isub hx hb dX9_lookWide_55 ?_
    refine lv_i2l (v := ((gI D o0 9) - (1 : Int32)).toInt64) hx hb dX9_lookWide_56 rfl ?_
    obtain ⟨r157, hq156, h⟩ := pq_i h
    refine r_cS (st' := [.int r157]) [.long ((gI D o151 x1.toNatClampNeg).toInt64), .long (0 : Int64), .long (((gI D o0 9) - (1 : Int32)).toInt64)] [] hC hw (k_X9_in _ hq156) mk_X9_in lk_1240 ⟨Nat.le_trans (by decide) hR.1, Nat.le_trans (by decide) hR.2⟩ ⟨Nat.zero_le _, Nat.zero_le _⟩ rfl hl.1 rfl rfl (Nat.le_of_ble_eq_true rfl) dX9_lookWide_57 (fun hP H locs hw => ?_)
    refine lv_if_ne (tgt := 65) hx hb dX9_lookWide_60 (by decide) (fun c158 => ?_) (fun c158 => ?_)
    · have h := i_no c158 h
      exact w_X9_lookWide_65 hC hR o0 a0 x1 x2 _ _ _ _ hi0 hw (lv_sub hl [0, 1, 2] rfl) h
    · have h := i_yes c158 h
      refine lv_iconst (v := 4) hx hb dX9_lookWide_63 (by decide) ?_
      cases h
      exact r_iret hC hw dX9_lookWide_64
set_option maxHeartbeats 4000000 in
set_option maxRecDepth 100000 in
theorem w_X9_lookWide_15 {r : Int32} {D' : dt} (hC : Cx RX9 cX9_lookWide 5 (some .int) p s m args meth c) (hR : 5 ≤ R.frames ∧ 121 ≤ R.locals) : ∀ (o0 a0 : Nat) (x1 : Int32) (xs0 : Int32) (D : dt) (H : Heap) (locs : List Loc) (ls : Array Slot), Is S ad o0 a0 8 → Wd G cA S D ad A s H locs → lv_has ls 5 [(0, .ref a0), (1, .int x1)] → f_X9_lookWide_15 S o0 x1 xs0 D = some (r, D') → W p l e R s m args below meth c H locs 0 0 (MQ below (Qn (some (.int r)) True (wpost G cA S D' ad A) A) args s 0 0 A) (F0 m 15 ls [.int xs0]) := by
  obtain ⟨hx, hb, -⟩ := id hC
  intro o0 a0 x1 xs0 D H locs ls hi0 hw hl h
  unfold f_X9_lookWide_15 at h
  refine lv_istore_n (lv' := [(2, .int xs0), (0, .ref a0), (1, .int x1)]) hx hb dX9_lookWide_15 rfl hl (by decide) rfl (fun ls hl => ?_)
  refine lv_iload_n hx hb dX9_lookWide_16 rfl (lv_at hl 0 rfl) ?_
  refine lv_if_eq (tgt := 32) hx hb dX9_lookWide_17 (by decide) (fun c159 => ?_) (fun c159 => ?_)
  · have h := i_yes c159 h
    exact w_X9_lookWide_32 hC hR o0 a0 x1 xs0 _ _ _ _ hi0 hw (lv_sub hl [1, 2, 0] rfl) h
  · have h := i_no c159 h
    refine lv_aload_n hx hb dX9_lookWide_20 rfl (lv_at hl 1 rfl) ?_
    refine lv_iload_n hx hb dX9_lookWide_21 rfl (lv_at hl 2 rfl) ?_
    refine lv_iconst (v := 1) hx hb dX9_lookWide_22 (by decide) ?_
    refine lv_iadd hx hb dX9_lookWide_23 ?_
    obtain ⟨r161, D162, hq160, h⟩ := cq_i h
    refine r_cV (st' := [.int r161]) [.int (x1 + (1 : Int32))] [] hC hw kc_8 hi0 (k_X9_isSecond _ hi0 hq160) mk_X9_isSecond lk_1409 ⟨Nat.le_trans (by decide) hR.1, Nat.le_trans (by decide) hR.2⟩ ⟨Nat.zero_le _, Nat.zero_le _⟩ rfl hl.1 rfl rfl (Nat.le_of_ble_eq_true rfl) dX9_lookWide_24 (fun hP H locs hw => ?_)
    refine lv_if_ne (tgt := 32) hx hb dX9_lookWide_27 (by decide) (fun c163 => ?_) (fun c163 => ?_)
    · have h := i_no c163 h
      exact w_X9_lookWide_32 hC hR o0 a0 x1 xs0 _ _ _ _ hi0 hw (lv_sub hl [1, 2, 0] rfl) h
    · have h := i_yes c163 h
      refine lv_iconst (v := 1) hx hb dX9_lookWide_30 (by decide) ?_
      cases h
      exact r_iret hC hw dX9_lookWide_31
set_option maxHeartbeats 4000000 in
set_option maxRecDepth 100000 in
theorem w_X9_lookWide_0 {r : Int32} {D' : dt} (hC : Cx RX9 cX9_lookWide 5 (some .int) p s m args meth c) (hR : 5 ≤ R.frames ∧ 121 ≤ R.locals) : ∀ (o0 a0 : Nat) (x1 : Int32) (D : dt) (H : Heap) (locs : List Loc) (ls : Array Slot), Is S ad o0 a0 8 → Wd G cA S D ad A s H locs → lv_has ls 5 [(0, .ref a0), (1, .int x1)] → f_X9_lookWide S o0 x1 D = some (r, D') → W p l e R s m args below meth c H locs 0 0 (MQ below (Qn (some (.int r)) True (wpost G cA S D' ad A) A) args s 0 0 A) (F0 m 0 ls []) := by
  obtain ⟨hx, hb, -⟩ := id hC
  intro o0 a0 x1 D H locs ls hi0 hw hl h
  unfold f_X9_lookWide at h
  refine lv_iload_n hx hb dX9_lookWide_0 rfl (lv_at hl 1 rfl) ?_
  refine lv_iconst (v := 1) hx hb dX9_lookWide_1 (by decide) ?_
  refine lv_iadd hx hb dX9_lookWide_2 ?_
  refine lv_aload_n hx hb dX9_lookWide_3 rfl (lv_at hl 0 rfl) ?_
  refine r_gI hC hw kc_8 hi0 0 rfl lk_1069 dX9_lookWide_4 ?_
  refine lv_icmp_ge (tgt := 14) hx hb dX9_lookWide_7 (by decide) (fun c164 => ?_) (fun c164 => ?_)
  · have h := i_yes c164 h
    refine lv_iconst (v := 0) hx hb dX9_lookWide_14 (by decide) ?_
    exact w_X9_lookWide_15 hC hR o0 a0 x1 (0 : Int32) _ _ _ _ hi0 hw (lv_sub hl [0, 1] rfl) h
  · have h := i_no c164 h
    refine lv_iconst (v := 1) hx hb dX9_lookWide_10 (by decide) ?_
    refine lv_goto (tgt := 15) hx hb dX9_lookWide_11 (by decide) ?_
    exact w_X9_lookWide_15 hC hR o0 a0 x1 (1 : Int32) _ _ _ _ hi0 hw (lv_sub hl [0, 1] rfl) h
set_option maxHeartbeats 4000000 in
set_option maxRecDepth 100000 in
theorem k_X9_lookWide {l : Launch} {G : va_G} {cA : Nat → ClassId} {S : sh} {D D' : dt} {ad : Nat → Nat} (sz : Nat) {o0 a0 : Nat} {x1 : Int32} {r : Int32} (hi0 : Is S ad o0 a0 8) (h : f_X9_lookWide S o0 x1 D = some (r, D')) : Co l yX9_lookWide (Cond.code yX9_lookWide cX9_lookWide 5 (some .int) :: tb0) 5 121 [.ref a0, .int x1] G cA S D ad sz (some (.int r)) True D' := by
  refine Met.ofW (cc := cX9_lookWide) (maxL := 5) (ret := (some .int)) (by decide) rfl ?_
  intro p e s m args below meth c s₁ B hml hv
  obtain ⟨rfl, hsz, hP, hK, hD0, hT, hX⟩ := hv
  subst hsz
  have hts := atoms_spec (ws := Cond.code yX9_lookWide cX9_lookWide 5 (some .int) :: tb0) B.pre
  have hC : Cx RX9 cX9_lookWide 5 (some .int) p s m _ meth c := ⟨B.exec, B.bytes, hml, findClass_of_methodNamed B.named, fun w q => hts w (List.mem_cons_of_mem _ q), B.returns, B.notSynchronized⟩
  have hw := Wd.entry hP hK hD0 hT hX
  have hl := lv_entry ([.ref a0, .int x1]) (n := 5) (Nat.le_of_ble_eq_true rfl)
  rw [lg_entry_eq]
  exact w_X9_lookWide_0 hC ⟨Nat.le_refl _, Nat.le_refl _⟩ o0 a0 x1 D _ _ _ hi0 hw hl h
set_option maxHeartbeats 4000000 in
set_option maxRecDepth 100000 in
theorem w_X9_look_300 {r : Int32} {D' : dt} (hC : Cx RX9 cX9_look 2 (some .int) p s m args meth c) (hR : 7 ≤ R.frames ∧ 207 ≤ R.locals) : ∀ (x1 : Int32) (os0 as0 : Nat) (os1 as1 : Nat) (xs2 : Int32) (xs3 : Int32) (D : dt) (H : Heap) (locs : List Loc) (ls : Array Slot), Is S ad os0 as0 8 → Is S ad os1 as1 8 → Wd G cA S D ad A s H locs → lv_has ls 2 [(1, .int x1)] → f_X9_look_300 S x1 os0 os1 xs2 xs3 D = some (r, D') → W p l e R s m args below meth c H locs 0 0 (MQ below (Qn (some (.int r)) True (wpost G cA S D' ad A) A) args s 0 0 A) (F0 m 300 ls [.int xs3, .int xs2, .ref as1, .ref as0]) := by
  obtain ⟨hx, hb, -⟩ := id hC
  intro x1 os0 as0 os1 as1 xs2 xs3 D H locs ls his0 his1 hw hl h
  unfold f_X9_look_300 at h
  obtain ⟨r144, D145, hq143, h⟩ := cq_i h
  refine r_cV (st' := [.int r144, .ref as0]) [.int xs2, .int xs3] [.ref as0] hC hw kc_8 his1 (k_X9_lookBoth _ his1 hq143) mk_X9_lookBoth lk_1584 ⟨Nat.le_trans (by decide) hR.1, Nat.le_trans (by decide) hR.2⟩ ⟨Nat.zero_le _, Nat.zero_le _⟩ rfl hl.1 rfl rfl (Nat.le_of_ble_eq_true rfl) dX9_look_300 (fun hP H locs hw => ?_)
  refine lv_iload_n hx hb dX9_look_303 rfl (lv_at hl 0 rfl) ?_
  refine lv_iconst (v := 1) hx hb dX9_look_304 (by decide) ?_
  refine lv_iadd hx hb dX9_look_305 ?_
  obtain ⟨r147, D148, hq146, h⟩ := cq_i h
  refine r_cV (st' := [.int r147]) [.int r144, .int (x1 + (1 : Int32))] [] hC hw kc_8 his0 (k_X9_onward _ his0 hq146) mk_X9_onward lk_1516 ⟨Nat.le_trans (by decide) hR.1, Nat.le_trans (by decide) hR.2⟩ ⟨Nat.zero_le _, Nat.zero_le _⟩ rfl hl.1 rfl rfl (Nat.le_of_ble_eq_true rfl) dX9_look_306 (fun hP H locs hw => ?_)
  cases h
  exact r_iret hC hw dX9_look_309
set_option maxHeartbeats 4000000 in
set_option maxRecDepth 100000 in
theorem w_X9_look_272 {r : Int32} {D' : dt} (hC : Cx RX9 cX9_look 2 (some .int) p s m args meth c) (hR : 7 ≤ R.frames ∧ 207 ≤ R.locals) : ∀ (x1 : Int32) (os0 as0 : Nat) (xs1 : Int32) (D : dt) (H : Heap) (locs : List Loc) (ls : Array Slot), Is S ad os0 as0 8 → Wd G cA S D ad A s H locs → lv_has ls 2 [(1, .int x1)] → f_X9_look_272 S x1 os0 xs1 D = some (r, D') → W p l e R s m args below meth c H locs 0 0 (MQ below (Qn (some (.int r)) True (wpost G cA S D' ad A) A) args s 0 0 A) (F0 m 272 ls [.int xs1, .ref as0]) := by
  obtain ⟨hx, hb, -⟩ := id hC
  intro x1 os0 as0 xs1 D H locs ls his0 hw hl h
  unfold f_X9_look_272 at h
  refine lv_iload_n hx hb dX9_look_272 rfl (lv_at hl 0 rfl) ?_
  refine lv_iconst (v := 1) hx hb dX9_look_273 (by decide) ?_
  refine lv_iadd hx hb dX9_look_274 ?_
  obtain ⟨r150, D151, hq149, h⟩ := cq_i h
  refine r_cV (st' := [.int r150]) [.int xs1, .int (x1 + (1 : Int32))] [] hC hw kc_8 his0 (k_X9_onward _ his0 hq149) mk_X9_onward lk_1516 ⟨Nat.le_trans (by decide) hR.1, Nat.le_trans (by decide) hR.2⟩ ⟨Nat.zero_le _, Nat.zero_le _⟩ rfl hl.1 rfl rfl (Nat.le_of_ble_eq_true rfl) dX9_look_275 (fun hP H locs hw => ?_)
  cases h
  exact r_iret hC hw dX9_look_278
set_option maxHeartbeats 4000000 in
set_option maxRecDepth 100000 in
theorem w_X9_look_118 {r : Int32} {D' : dt} (hC : Cx RX9 cX9_look 2 (some .int) p s m args meth c) (hR : 7 ≤ R.frames ∧ 207 ≤ R.locals) : ∀ (os0 as0 : Nat) (xs1 : Int32) (xs2 : Int32) (xs3 : Int32) (D : dt) (H : Heap) (locs : List Loc) (ls : Array Slot), Is S ad os0 as0 8 → Wd G cA S D ad A s H locs → lv_has ls 2 [] → f_X9_look_118 S os0 xs1 xs2 xs3 D = some (r, D') → W p l e R s m args below meth c H locs 0 0 (MQ below (Qn (some (.int r)) True (wpost G cA S D' ad A) A) args s 0 0 A) (F0 m 118 ls [.int xs3, .int xs2, .int xs1, .ref as0]) := by
  obtain ⟨hx, hb, -⟩ := id hC
  intro os0 as0 xs1 xs2 xs3 D H locs ls his0 hw hl h
  unfold f_X9_look_118 at h
  refine lv_iadd hx hb dX9_look_118 ?_
  obtain ⟨r153, D154, hq152, h⟩ := cq_i h
  refine r_cV (st' := [.int r153]) [.int xs1, .int (xs2 + xs3)] [] hC hw kc_8 his0 (k_X9_onward _ his0 hq152) mk_X9_onward lk_1516 ⟨Nat.le_trans (by decide) hR.1, Nat.le_trans (by decide) hR.2⟩ ⟨Nat.zero_le _, Nat.zero_le _⟩ rfl hl.1 rfl rfl (Nat.le_of_ble_eq_true rfl) dX9_look_119 (fun hP H locs hw => ?_)
  cases h
  exact r_iret hC hw dX9_look_122
set_option maxHeartbeats 4000000 in
set_option maxRecDepth 100000 in
theorem w_X9_look_216 {r : Int32} {D' : dt} (hC : Cx RX9 cX9_look 2 (some .int) p s m args meth c) (hR : 7 ≤ R.frames ∧ 207 ≤ R.locals) : ∀ (x1 : Int32) (os0 as0 : Nat) (xs1 : Int32) (D : dt) (H : Heap) (locs : List Loc) (ls : Array Slot), Is S ad os0 as0 8 → Wd G cA S D ad A s H locs → lv_has ls 2 [(1, .int x1)] → f_X9_look_216 S x1 os0 xs1 D = some (r, D') → W p l e R s m args below meth c H locs 0 0 (MQ below (Qn (some (.int r)) True (wpost G cA S D' ad A) A) args s 0 0 A) (F0 m 216 ls [.int xs1, .ref as0]) := by
  obtain ⟨hx, hb, -⟩ := id hC
  intro x1 os0 as0 xs1 D H locs ls his0 hw hl h
  unfold f_X9_look_216 at h
  refine lv_iload_n hx hb dX9_look_216 rfl (lv_at hl 0 rfl) ?_
  refine lv_iconst (v := 1) hx hb dX9_look_217 (by decide) ?_
  refine lv_iadd hx hb dX9_look_218 ?_
  obtain ⟨r156, D157, hq155, h⟩ := cq_i h
  refine r_cV (st' := [.int r156]) [.int xs1, .int (x1 + (1 : Int32))] [] hC hw kc_8 his0 (k_X9_onward _ his0 hq155) mk_X9_onward lk_1516 ⟨Nat.le_trans (by decide) hR.1, Nat.le_trans (by decide) hR.2⟩ ⟨Nat.zero_le _, Nat.zero_le _⟩ rfl hl.1 rfl rfl (Nat.le_of_ble_eq_true rfl) dX9_look_219 (fun hP H locs hw => ?_)
  cases h
  exact r_iret hC hw dX9_look_222
set_option maxHeartbeats 4000000 in
set_option maxRecDepth 100000 in
theorem w_X9_look_252 {r : Int32} {D' : dt} (hC : Cx RX9 cX9_look 2 (some .int) p s m args meth c) (hR : 7 ≤ R.frames ∧ 207 ≤ R.locals) : ∀ (x1 : Int32) (os0 as0 : Nat) (D : dt) (H : Heap) (locs : List Loc) (ls : Array Slot), Is S ad os0 as0 8 → Wd G cA S D ad A s H locs → lv_has ls 2 [(1, .int x1)] → f_X9_look_252 S x1 os0 D = some (r, D') → W p l e R s m args below meth c H locs 0 0 (MQ below (Qn (some (.int r)) True (wpost G cA S D' ad A) A) args s 0 0 A) (F0 m 252 ls [.ref as0]) := by
  obtain ⟨hx, hb, -⟩ := id hC
  intro x1 os0 as0 D H locs ls his0 hw hl h
  unfold f_X9_look_252 at h
  refine lv_iconst (v := 2) hx hb dX9_look_252 (by decide) ?_
  refine lv_goto (tgt := 272) hx hb dX9_look_253 (by decide) ?_
  exact w_X9_look_272 hC hR x1 os0 as0 (2 : Int32) _ _ _ _ his0 hw (lv_sub hl [0] rfl) h
set_option maxHeartbeats 4000000 in
set_option maxRecDepth 100000 in
theorem w_X9_look_0 {r : Int32} {D' : dt} (hC : Cx RX9 cX9_look 2 (some .int) p s m args meth c) (hR : 7 ≤ R.frames ∧ 207 ≤ R.locals) : ∀ (o0 a0 : Nat) (x1 : Int32) (D : dt) (H : Heap) (locs : List Loc) (ls : Array Slot), Is S ad o0 a0 8 → Wd G cA S D ad A s H locs → lv_has ls 2 [(0, .ref a0), (1, .int x1)] → f_X9_look S o0 x1 D = some (r, D') → W p l e R s m args below meth c H locs 0 0 (MQ below (Qn (some (.int r)) True (wpost G cA S D' ad A) A) args s 0 0 A) (F0 m 0 ls []) := by
  obtain ⟨hx, hb, -⟩ := id hC
  intro o0 a0 x1 D H locs ls hi0 hw hl h
  unfold f_X9_look at h
  refine lv_aload_n hx hb dX9_look_0 rfl (lv_at hl 0 rfl) ?_
  refine lv_iload_n hx hb dX9_look_1 rfl (lv_at hl 1 rfl) ?_
  obtain ⟨r159, D160, hq158, h⟩ := cq_i h
  refine r_cV (st' := [.int r159]) [.int x1] [] hC hw kc_8 hi0 (k_X9_kindOf _ hi0 hq158) mk_X9_kindOf lk_1309 ⟨Nat.le_trans (by decide) hR.1, Nat.le_trans (by decide) hR.2⟩ ⟨Nat.zero_le _, Nat.zero_le _⟩ rfl hl.1 rfl rfl (Nat.le_of_ble_eq_true rfl) dX9_look_2 (fun hP H locs hw => ?_)
  by_cases c161 : r159 = 0
  · have h := i_yes c161 h
    refine lv_tableIn (off := 59) (tgt := 64) hx hb dX9_look_5 (by rw [c161]; decide) (by rw [c161]; decide) (by rw [c161] <;> rfl) (by decide) ?_
    refine lv_iconst (v := 1) hx hb dX9_look_64 (by decide) ?_
    cases h
    exact r_iret hC hw dX9_look_65
  have h := i_no c161 h
  by_cases c162 : r159 = 1
  · have h := i_yes c162 h
    refine lv_tableIn (off := 61) (tgt := 66) hx hb dX9_look_5 (by rw [c162]; decide) (by rw [c162]; decide) (by rw [c162] <;> rfl) (by decide) ?_
    refine lv_aload_n hx hb dX9_look_66 rfl (lv_at hl 0 rfl) ?_
    refine lv_aload_n hx hb dX9_look_67 rfl (lv_at hl 0 rfl) ?_
    refine lv_iload_n hx hb dX9_look_68 rfl (lv_at hl 1 rfl) ?_
    obtain ⟨r164, D165, hq163, h⟩ := cq_i h
    refine r_cV (st' := [.int r164, .ref a0]) [.int x1] [.ref a0] hC hw kc_8 hi0 (k_X9_lookRegister _ hi0 hq163) mk_X9_lookRegister lk_1477 ⟨Nat.le_trans (by decide) hR.1, Nat.le_trans (by decide) hR.2⟩ ⟨Nat.zero_le _, Nat.zero_le _⟩ rfl hl.1 rfl rfl (Nat.le_of_ble_eq_true rfl) dX9_look_69 (fun hP H locs hw => ?_)
    refine lv_iload_n hx hb dX9_look_72 rfl (lv_at hl 1 rfl) ?_
    refine lv_iconst (v := 1) hx hb dX9_look_73 (by decide) ?_
    refine lv_iadd hx hb dX9_look_74 ?_
    obtain ⟨r167, D168, hq166, h⟩ := cq_i h
    refine r_cV (st' := [.int r167]) [.int r164, .int (x1 + (1 : Int32))] [] hC hw kc_8 hi0 (k_X9_onward _ hi0 hq166) mk_X9_onward lk_1516 ⟨Nat.le_trans (by decide) hR.1, Nat.le_trans (by decide) hR.2⟩ ⟨Nat.zero_le _, Nat.zero_le _⟩ rfl hl.1 rfl rfl (Nat.le_of_ble_eq_true rfl) dX9_look_75 (fun hP H locs hw => ?_)
    cases h
    exact r_iret hC hw dX9_look_78
  have h := i_no c162 h
  by_cases c169 : r159 = 2
  · have h := i_yes c169 h
    refine lv_tableIn (off := 74) (tgt := 79) hx hb dX9_look_5 (by rw [c169]; decide) (by rw [c169]; decide) (by rw [c169] <;> rfl) (by decide) ?_
    refine lv_aload_n hx hb dX9_look_79 rfl (lv_at hl 0 rfl) ?_
    refine lv_iload_n hx hb dX9_look_80 rfl (lv_at hl 1 rfl) ?_
    obtain ⟨r171, D172, hq170, h⟩ := cq_i h
    refine r_cV (st' := [.int r171]) [.int x1] [] hC hw kc_8 hi0 (k_X9_lookJump _ hi0 hq170) mk_X9_lookJump lk_1524 ⟨Nat.le_trans (by decide) hR.1, Nat.le_trans (by decide) hR.2⟩ ⟨Nat.zero_le _, Nat.zero_le _⟩ rfl hl.1 rfl rfl (Nat.le_of_ble_eq_true rfl) dX9_look_81 (fun hP H locs hw => ?_)
    cases h
    exact r_iret hC hw dX9_look_84
  have h := i_no c169 h
  by_cases c173 : r159 = 3
  · have h := i_yes c173 h
    refine lv_tableIn (off := 80) (tgt := 85) hx hb dX9_look_5 (by rw [c173]; decide) (by rw [c173]; decide) (by rw [c173] <;> rfl) (by decide) ?_
    refine lv_aload_n hx hb dX9_look_85 rfl (lv_at hl 0 rfl) ?_
    refine lv_iconst (v := 0) hx hb dX9_look_86 (by decide) ?_
    refine lv_iload_n hx hb dX9_look_87 rfl (lv_at hl 1 rfl) ?_
    refine lv_iconst (v := 1) hx hb dX9_look_88 (by decide) ?_
    refine lv_iadd hx hb dX9_look_89 ?_
    refine lv_aload_n hx hb dX9_look_90 rfl (lv_at hl 0 rfl) ?_
    obtain ⟨o174, ho177, h⟩ := rq_i h
    refine r_getR hC hw kc_8 hi0 1 rfl lk_1070 dX9_look_91 rfl ho177 (fun a175 hi176 => ?_)
    refine lv_iload_n hx hb dX9_look_94 rfl (lv_at hl 1 rfl) ?_
    obtain ⟨hn178, h⟩ := ix_i h
    refine r_iald hC hw hi176 hn178 dX9_look_95 ?_
    refine lv_bipush (v := 7) hx hb dX9_look_96 (by decide) ?_
    refine lv_iand hx hb dX9_look_98 ?_
    refine lv_iconst (v := 5) hx hb dX9_look_99 (by decide) ?_
    refine lv_icmp_ne (tgt := 112) hx hb dX9_look_100 (by decide) (fun c179 => ?_) (fun c179 => ?_)
    · have h := i_no c179 h
      refine lv_aload_n hx hb dX9_look_112 rfl (lv_at hl 0 rfl) ?_
      obtain ⟨o180, ho183, h⟩ := rq_i h
      refine r_getR hC hw kc_8 hi0 5 rfl lk_1074 dX9_look_113 rfl ho183 (fun a181 hi182 => ?_)
      refine lv_iload_n hx hb dX9_look_116 rfl (lv_at hl 1 rfl) ?_
      obtain ⟨hn184, h⟩ := ix_i h
      refine r_iald hC hw hi182 hn184 dX9_look_117 ?_
      exact w_X9_look_118 hC hR o0 a0 (0 : Int32) (x1 + (1 : Int32)) (gI D160 o180 x1.toNatClampNeg) _ _ _ _ hi0 hw (lv_sub hl [] rfl) h
    · have h := i_yes c179 h
      refine lv_aload_n hx hb dX9_look_103 rfl (lv_at hl 0 rfl) ?_
      obtain ⟨o185, ho188, h⟩ := rq_i h
      refine r_getR hC hw kc_8 hi0 4 rfl lk_1073 dX9_look_104 rfl ho188 (fun a186 hi187 => ?_)
      refine lv_iload_n hx hb dX9_look_107 rfl (lv_at hl 1 rfl) ?_
      obtain ⟨hn189, h⟩ := ix_i h
      refine r_iald hC hw hi187 hn189 dX9_look_108 ?_
      refine lv_goto (tgt := 118) hx hb dX9_look_109 (by decide) ?_
      exact w_X9_look_118 hC hR o0 a0 (0 : Int32) (x1 + (1 : Int32)) (gI D160 o185 x1.toNatClampNeg) _ _ _ _ hi0 hw (lv_sub hl [] rfl) h
  have h := i_no c173 h
  by_cases c190 : r159 = 4
  · have h := i_yes c190 h
    refine lv_tableIn (off := 118) (tgt := 123) hx hb dX9_look_5 (by rw [c190]; decide) (by rw [c190]; decide) (by rw [c190] <;> rfl) (by decide) ?_
    refine lv_aload_n hx hb dX9_look_123 rfl (lv_at hl 0 rfl) ?_
    obtain ⟨o191, ho194, h⟩ := rq_i h
    refine r_getR hC hw kc_8 hi0 40 rfl lk_1109 dX9_look_124 rfl ho194 (fun a192 hi193 => ?_)
    refine lv_iconst (v := 0) hx hb dX9_look_127 (by decide) ?_
    obtain ⟨hn195, h⟩ := ix_i h
    refine r_iald hC hw hi193 hn195 dX9_look_128 ?_
    refine lv_iconst (v := 1) hx hb dX9_look_129 (by decide) ?_
    refine lv_icmp_ne (tgt := 137) hx hb dX9_look_130 (by decide) (fun c196 => ?_) (fun c196 => ?_)
    · have h := i_no c196 h
      refine lv_iconst (v := 5) hx hb dX9_look_137 (by decide) ?_
      cases h
      exact r_iret hC hw dX9_look_138
    · have h := i_yes c196 h
      refine lv_iconst (v := 0) hx hb dX9_look_133 (by decide) ?_
      refine lv_goto (tgt := 138) hx hb dX9_look_134 (by decide) ?_
      cases h
      exact r_iret hC hw dX9_look_138
  have h := i_no c190 h
  by_cases c197 : r159 = 5
  · have h := i_yes c197 h
    refine lv_tableIn (off := 134) (tgt := 139) hx hb dX9_look_5 (by rw [c197]; decide) (by rw [c197]; decide) (by rw [c197] <;> rfl) (by decide) ?_
    refine lv_aload_n hx hb dX9_look_139 rfl (lv_at hl 0 rfl) ?_
    refine lv_aload_n hx hb dX9_look_140 rfl (lv_at hl 0 rfl) ?_
    refine lv_iload_n hx hb dX9_look_141 rfl (lv_at hl 1 rfl) ?_
    refine lv_aload_n hx hb dX9_look_142 rfl (lv_at hl 0 rfl) ?_
    obtain ⟨o198, ho201, h⟩ := rq_i h
    refine r_getR hC hw kc_8 hi0 5 rfl lk_1074 dX9_look_143 rfl ho201 (fun a199 hi200 => ?_)
    refine lv_iload_n hx hb dX9_look_146 rfl (lv_at hl 1 rfl) ?_
    obtain ⟨hn202, h⟩ := ix_i h
    refine r_iald hC hw hi200 hn202 dX9_look_147 ?_
    obtain ⟨r204, D205, hq203, h⟩ := cq_i h
    refine r_cV (st' := [.int r204, .ref a0]) [.int x1, .int (gI D160 o198 x1.toNatClampNeg)] [.ref a0] hC hw kc_8 hi0 (k_X9_lookCall _ hi0 hq203) mk_X9_lookCall lk_1550 ⟨Nat.le_trans (by decide) hR.1, Nat.le_trans (by decide) hR.2⟩ ⟨Nat.zero_le _, Nat.zero_le _⟩ rfl hl.1 rfl rfl (Nat.le_of_ble_eq_true rfl) dX9_look_148 (fun hP H locs hw => ?_)
    refine lv_iload_n hx hb dX9_look_151 rfl (lv_at hl 1 rfl) ?_
    refine lv_iconst (v := 1) hx hb dX9_look_152 (by decide) ?_
    refine lv_iadd hx hb dX9_look_153 ?_
    obtain ⟨r207, D208, hq206, h⟩ := cq_i h
    refine r_cV (st' := [.int r207]) [.int r204, .int (x1 + (1 : Int32))] [] hC hw kc_8 hi0 (k_X9_onward _ hi0 hq206) mk_X9_onward lk_1516 ⟨Nat.le_trans (by decide) hR.1, Nat.le_trans (by decide) hR.2⟩ ⟨Nat.zero_le _, Nat.zero_le _⟩ rfl hl.1 rfl rfl (Nat.le_of_ble_eq_true rfl) dX9_look_154 (fun hP H locs hw => ?_)
    cases h
    exact r_iret hC hw dX9_look_157
  have h := i_no c197 h
  by_cases c209 : r159 = 6
  · have h := i_yes c209 h
    refine lv_tableIn (off := 153) (tgt := 158) hx hb dX9_look_5 (by rw [c209]; decide) (by rw [c209]; decide) (by rw [c209] <;> rfl) (by decide) ?_
    refine lv_aload_n hx hb dX9_look_158 rfl (lv_at hl 0 rfl) ?_
    refine lv_aload_n hx hb dX9_look_159 rfl (lv_at hl 0 rfl) ?_
    refine lv_iload_n hx hb dX9_look_160 rfl (lv_at hl 1 rfl) ?_
    refine lv_iconst (v := 0) hx hb dX9_look_161 (by decide) ?_
    obtain ⟨r211, D212, hq210, h⟩ := cq_i h
    refine r_cV (st' := [.int r211, .ref a0]) [.int x1, .int (0 : Int32)] [.ref a0] hC hw kc_8 hi0 (k_X9_lookLoad _ hi0 hq210) mk_X9_lookLoad lk_1567 ⟨Nat.le_trans (by decide) hR.1, Nat.le_trans (by decide) hR.2⟩ ⟨Nat.zero_le _, Nat.zero_le _⟩ rfl hl.1 rfl rfl (Nat.le_of_ble_eq_true rfl) dX9_look_162 (fun hP H locs hw => ?_)
    refine lv_iload_n hx hb dX9_look_165 rfl (lv_at hl 1 rfl) ?_
    refine lv_iconst (v := 1) hx hb dX9_look_166 (by decide) ?_
    refine lv_iadd hx hb dX9_look_167 ?_
    obtain ⟨r214, D215, hq213, h⟩ := cq_i h
    refine r_cV (st' := [.int r214]) [.int r211, .int (x1 + (1 : Int32))] [] hC hw kc_8 hi0 (k_X9_onward _ hi0 hq213) mk_X9_onward lk_1516 ⟨Nat.le_trans (by decide) hR.1, Nat.le_trans (by decide) hR.2⟩ ⟨Nat.zero_le _, Nat.zero_le _⟩ rfl hl.1 rfl rfl (Nat.le_of_ble_eq_true rfl) dX9_look_168 (fun hP H locs hw => ?_)
    cases h
    exact r_iret hC hw dX9_look_171
  have h := i_no c209 h
  by_cases c216 : r159 = 7
  · have h := i_yes c216 h
    refine lv_tableIn (off := 167) (tgt := 172) hx hb dX9_look_5 (by rw [c216]; decide) (by rw [c216]; decide) (by rw [c216] <;> rfl) (by decide) ?_
    refine lv_aload_n hx hb dX9_look_172 rfl (lv_at hl 0 rfl) ?_
    refine lv_aload_n hx hb dX9_look_173 rfl (lv_at hl 0 rfl) ?_
    refine lv_iload_n hx hb dX9_look_174 rfl (lv_at hl 1 rfl) ?_
    refine lv_iconst (v := 1) hx hb dX9_look_175 (by decide) ?_
    obtain ⟨r218, D219, hq217, h⟩ := cq_i h
    refine r_cV (st' := [.int r218, .ref a0]) [.int x1, .int (1 : Int32)] [.ref a0] hC hw kc_8 hi0 (k_X9_lookLoad _ hi0 hq217) mk_X9_lookLoad lk_1567 ⟨Nat.le_trans (by decide) hR.1, Nat.le_trans (by decide) hR.2⟩ ⟨Nat.zero_le _, Nat.zero_le _⟩ rfl hl.1 rfl rfl (Nat.le_of_ble_eq_true rfl) dX9_look_176 (fun hP H locs hw => ?_)
    refine lv_iload_n hx hb dX9_look_179 rfl (lv_at hl 1 rfl) ?_
    refine lv_iconst (v := 1) hx hb dX9_look_180 (by decide) ?_
    refine lv_iadd hx hb dX9_look_181 ?_
    obtain ⟨r221, D222, hq220, h⟩ := cq_i h
    refine r_cV (st' := [.int r221]) [.int r218, .int (x1 + (1 : Int32))] [] hC hw kc_8 hi0 (k_X9_onward _ hi0 hq220) mk_X9_onward lk_1516 ⟨Nat.le_trans (by decide) hR.1, Nat.le_trans (by decide) hR.2⟩ ⟨Nat.zero_le _, Nat.zero_le _⟩ rfl hl.1 rfl rfl (Nat.le_of_ble_eq_true rfl) dX9_look_182 (fun hP H locs hw => ?_)
    cases h
    exact r_iret hC hw dX9_look_185
  have h := i_no c216 h
  by_cases c223 : r159 = 8
  · have h := i_yes c223 h
    refine lv_tableIn (off := 181) (tgt := 186) hx hb dX9_look_5 (by rw [c223]; decide) (by rw [c223]; decide) (by rw [c223] <;> rfl) (by decide) ?_
    refine lv_aload_n hx hb dX9_look_186 rfl (lv_at hl 0 rfl) ?_
    refine lv_aload_n hx hb dX9_look_187 rfl (lv_at hl 0 rfl) ?_
    obtain ⟨o224, ho227, h⟩ := rq_i h
    refine r_getR hC hw kc_8 hi0 40 rfl lk_1109 dX9_look_188 rfl ho227 (fun a225 hi226 => ?_)
    refine lv_aload_n hx hb dX9_look_191 rfl (lv_at hl 0 rfl) ?_
    obtain ⟨o228, ho231, h⟩ := rq_i h
    refine r_getR hC hw kc_8 hi0 2 rfl lk_1071 dX9_look_192 rfl ho231 (fun a229 hi230 => ?_)
    refine lv_iload_n hx hb dX9_look_195 rfl (lv_at hl 1 rfl) ?_
    obtain ⟨hn232, h⟩ := ix_i h
    refine r_iald hC hw hi230 hn232 dX9_look_196 ?_
    obtain ⟨hn233, h⟩ := ix_i h
    refine r_iald hC hw hi226 hn233 dX9_look_197 ?_
    refine lv_if_ne (tgt := 205) hx hb dX9_look_198 (by decide) (fun c234 => ?_) (fun c234 => ?_)
    · have h := i_no c234 h
      refine lv_aload_n hx hb dX9_look_205 rfl (lv_at hl 0 rfl) ?_
      refine lv_iload_n hx hb dX9_look_206 rfl (lv_at hl 1 rfl) ?_
      refine lv_aload_n hx hb dX9_look_207 rfl (lv_at hl 0 rfl) ?_
      refine lv_iload_n hx hb dX9_look_208 rfl (lv_at hl 1 rfl) ?_
      obtain ⟨r236, D237, hq235, h⟩ := cq_i h
      refine r_cV (st' := [.int r236, .int x1, .ref a0, .ref a0]) [.int x1] [.int x1, .ref a0, .ref a0] hC hw kc_8 hi0 (k_X9_widthOf _ hi0 hq235) mk_X9_widthOf lk_1305 ⟨Nat.le_trans (by decide) hR.1, Nat.le_trans (by decide) hR.2⟩ ⟨Nat.zero_le _, Nat.zero_le _⟩ rfl hl.1 rfl rfl (Nat.le_of_ble_eq_true rfl) dX9_look_209 (fun hP H locs hw => ?_)
      refine lv_iconst (v := (-1)) hx hb dX9_look_212 (by decide) ?_
      obtain ⟨r239, D240, hq238, h⟩ := cq_i h
      refine r_cV (st' := [.int r239, .ref a0]) [.int x1, .int r236, .int (-1 : Int32)] [.ref a0] hC hw kc_8 hi0 (k_X9_lookPut _ hi0 hq238) mk_X9_lookPut lk_1574 ⟨Nat.le_trans (by decide) hR.1, Nat.le_trans (by decide) hR.2⟩ ⟨Nat.zero_le _, Nat.zero_le _⟩ rfl hl.1 rfl rfl (Nat.le_of_ble_eq_true rfl) dX9_look_213 (fun hP H locs hw => ?_)
      exact w_X9_look_216 hC hR x1 o0 a0 r239 _ _ _ _ hi0 hw (lv_sub hl [1] rfl) h
    · have h := i_yes c234 h
      refine lv_iconst (v := 2) hx hb dX9_look_201 (by decide) ?_
      refine lv_goto (tgt := 216) hx hb dX9_look_202 (by decide) ?_
      exact w_X9_look_216 hC hR x1 o0 a0 (2 : Int32) _ _ _ _ hi0 hw (lv_sub hl [1] rfl) h
  have h := i_no c223 h
  by_cases c241 : r159 = 9
  · have h := i_yes c241 h
    refine lv_tableIn (off := 218) (tgt := 223) hx hb dX9_look_5 (by rw [c241]; decide) (by rw [c241]; decide) (by rw [c241] <;> rfl) (by decide) ?_
    refine lv_aload_n hx hb dX9_look_223 rfl (lv_at hl 0 rfl) ?_
    refine lv_aload_n hx hb dX9_look_224 rfl (lv_at hl 0 rfl) ?_
    obtain ⟨o242, ho245, h⟩ := rq_i h
    refine r_getR hC hw kc_8 hi0 40 rfl lk_1109 dX9_look_225 rfl ho245 (fun a243 hi244 => ?_)
    refine lv_aload_n hx hb dX9_look_228 rfl (lv_at hl 0 rfl) ?_
    obtain ⟨o246, ho249, h⟩ := rq_i h
    refine r_getR hC hw kc_8 hi0 2 rfl lk_1071 dX9_look_229 rfl ho249 (fun a247 hi248 => ?_)
    refine lv_iload_n hx hb dX9_look_232 rfl (lv_at hl 1 rfl) ?_
    obtain ⟨hn250, h⟩ := ix_i h
    refine r_iald hC hw hi248 hn250 dX9_look_233 ?_
    obtain ⟨hn251, h⟩ := ix_i h
    refine r_iald hC hw hi244 hn251 dX9_look_234 ?_
    refine lv_if_eq (tgt := 252) hx hb dX9_look_235 (by decide) (fun c252 => ?_) (fun c252 => ?_)
    · have h := i_yes c252 h
      exact w_X9_look_252 hC hR x1 o0 a0 _ _ _ _ hi0 hw (lv_sub hl [1] rfl) h
    · have h := i_no c252 h
      refine lv_aload_n hx hb dX9_look_238 rfl (lv_at hl 0 rfl) ?_
      obtain ⟨o253, ho256, h⟩ := rq_i h
      refine r_getR hC hw kc_8 hi0 40 rfl lk_1109 dX9_look_239 rfl ho256 (fun a254 hi255 => ?_)
      refine lv_aload_n hx hb dX9_look_242 rfl (lv_at hl 0 rfl) ?_
      obtain ⟨o257, ho260, h⟩ := rq_i h
      refine r_getR hC hw kc_8 hi0 3 rfl lk_1072 dX9_look_243 rfl ho260 (fun a258 hi259 => ?_)
      refine lv_iload_n hx hb dX9_look_246 rfl (lv_at hl 1 rfl) ?_
      obtain ⟨hn261, h⟩ := ix_i h
      refine r_iald hC hw hi259 hn261 dX9_look_247 ?_
      obtain ⟨hn262, h⟩ := ix_i h
      refine r_iald hC hw hi255 hn262 dX9_look_248 ?_
      refine lv_if_ne (tgt := 256) hx hb dX9_look_249 (by decide) (fun c263 => ?_) (fun c263 => ?_)
      · have h := i_no c263 h
        refine lv_aload_n hx hb dX9_look_256 rfl (lv_at hl 0 rfl) ?_
        refine lv_iload_n hx hb dX9_look_257 rfl (lv_at hl 1 rfl) ?_
        refine lv_aload_n hx hb dX9_look_258 rfl (lv_at hl 0 rfl) ?_
        refine lv_iload_n hx hb dX9_look_259 rfl (lv_at hl 1 rfl) ?_
        obtain ⟨r265, D266, hq264, h⟩ := cq_i h
        refine r_cV (st' := [.int r265, .int x1, .ref a0, .ref a0]) [.int x1] [.int x1, .ref a0, .ref a0] hC hw kc_8 hi0 (k_X9_widthOf _ hi0 hq264) mk_X9_widthOf lk_1305 ⟨Nat.le_trans (by decide) hR.1, Nat.le_trans (by decide) hR.2⟩ ⟨Nat.zero_le _, Nat.zero_le _⟩ rfl hl.1 rfl rfl (Nat.le_of_ble_eq_true rfl) dX9_look_260 (fun hP H locs hw => ?_)
        refine lv_aload_n hx hb dX9_look_263 rfl (lv_at hl 0 rfl) ?_
        obtain ⟨o267, ho270, h⟩ := rq_i h
        refine r_getR hC hw kc_8 hi0 3 rfl lk_1072 dX9_look_264 rfl ho270 (fun a268 hi269 => ?_)
        refine lv_iload_n hx hb dX9_look_267 rfl (lv_at hl 1 rfl) ?_
        obtain ⟨hn271, h⟩ := ix_i h
        refine r_iald hC hw hi269 hn271 dX9_look_268 ?_
        obtain ⟨r273, D274, hq272, h⟩ := cq_i h
        refine r_cV (st' := [.int r273, .ref a0]) [.int x1, .int r265, .int (gI D266 o267 x1.toNatClampNeg)] [.ref a0] hC hw kc_8 hi0 (k_X9_lookPut _ hi0 hq272) mk_X9_lookPut lk_1574 ⟨Nat.le_trans (by decide) hR.1, Nat.le_trans (by decide) hR.2⟩ ⟨Nat.zero_le _, Nat.zero_le _⟩ rfl hl.1 rfl rfl (Nat.le_of_ble_eq_true rfl) dX9_look_269 (fun hP H locs hw => ?_)
        exact w_X9_look_272 hC hR x1 o0 a0 r273 _ _ _ _ hi0 hw (lv_sub hl [1] rfl) h
      · have h := i_yes c263 h
        exact w_X9_look_252 hC hR x1 o0 a0 _ _ _ _ hi0 hw (lv_sub hl [1] rfl) h
  have h := i_no c241 h
  by_cases c275 : r159 = 10
  · have h := i_yes c275 h
    refine lv_tableIn (off := 274) (tgt := 279) hx hb dX9_look_5 (by rw [c275]; decide) (by rw [c275]; decide) (by rw [c275] <;> rfl) (by decide) ?_
    refine lv_aload_n hx hb dX9_look_279 rfl (lv_at hl 0 rfl) ?_
    refine lv_aload_n hx hb dX9_look_280 rfl (lv_at hl 0 rfl) ?_
    refine lv_iload_n hx hb dX9_look_281 rfl (lv_at hl 1 rfl) ?_
    refine lv_aload_n hx hb dX9_look_282 rfl (lv_at hl 0 rfl) ?_
    obtain ⟨o276, ho279, h⟩ := rq_i h
    refine r_getR hC hw kc_8 hi0 1 rfl lk_1070 dX9_look_283 rfl ho279 (fun a277 hi278 => ?_)
    refine lv_iload_n hx hb dX9_look_286 rfl (lv_at hl 1 rfl) ?_
    obtain ⟨hn280, h⟩ := ix_i h
    refine r_iald hC hw hi278 hn280 dX9_look_287 ?_
    refine lv_sipush (v := 219) hx hb dX9_look_288 (by decide) ?_
    refine lv_icmp_ne (tgt := 299) hx hb dX9_look_291 (by decide) (fun c281 => ?_) (fun c281 => ?_)
    · have h := i_no c281 h
      refine lv_iconst (v := 4) hx hb dX9_look_299 (by decide) ?_
      exact w_X9_look_300 hC hR x1 o0 a0 o0 a0 x1 (4 : Int32) _ _ _ _ hi0 hi0 hw (lv_sub hl [1] rfl) h
    · have h := i_yes c281 h
      refine lv_bipush (v := 8) hx hb dX9_look_294 (by decide) ?_
      refine lv_goto (tgt := 300) hx hb dX9_look_296 (by decide) ?_
      exact w_X9_look_300 hC hR x1 o0 a0 o0 a0 x1 (8 : Int32) _ _ _ _ hi0 hi0 hw (lv_sub hl [1] rfl) h
  have h := i_no c275 h
  refine lv_tableOut (tgt := 310) hx hb dX9_look_5 (by have nc161 := lv_neT c161 (a := 0) rfl; have nc162 := lv_neT c162 (a := 1) rfl; have nc169 := lv_neT c169 (a := 2) rfl; have nc173 := lv_neT c173 (a := 3) rfl; have nc190 := lv_neT c190 (a := 4) rfl; have nc197 := lv_neT c197 (a := 5) rfl; have nc209 := lv_neT c209 (a := 6) rfl; have nc216 := lv_neT c216 (a := 7) rfl; have nc223 := lv_neT c223 (a := 8) rfl; have nc241 := lv_neT c241 (a := 9) rfl; have nc275 := lv_neT c275 (a := 10) rfl; omega) (by decide) ?_
  refine lv_aload_n hx hb dX9_look_310 rfl (lv_at hl 0 rfl) ?_
  refine lv_iload_n hx hb dX9_look_311 rfl (lv_at hl 1 rfl) ?_
  obtain ⟨r283, D284, hq282, h⟩ := cq_i h
  refine r_cV (st' := [.int r283]) [.int x1] [] hC hw kc_8 hi0 (k_X9_lookWide _ hi0 hq282) mk_X9_lookWide lk_1588 ⟨Nat.le_trans (by decide) hR.1, Nat.le_trans (by decide) hR.2⟩ ⟨Nat.zero_le _, Nat.zero_le _⟩ rfl hl.1 rfl rfl (Nat.le_of_ble_eq_true rfl) dX9_look_312 (fun hP H locs hw => ?_)
  cases h
  exact r_iret hC hw dX9_look_315
set_option maxHeartbeats 4000000 in
set_option maxRecDepth 100000 in
theorem k_X9_look {l : Launch} {G : va_G} {cA : Nat → ClassId} {S : sh} {D D' : dt} {ad : Nat → Nat} (sz : Nat) {o0 a0 : Nat} {x1 : Int32} {r : Int32} (hi0 : Is S ad o0 a0 8) (h : f_X9_look S o0 x1 D = some (r, D')) : Co l yX9_look (Cond.code yX9_look cX9_look 2 (some .int) :: tb0) 7 207 [.ref a0, .int x1] G cA S D ad sz (some (.int r)) True D' := by
  refine Met.ofW (cc := cX9_look) (maxL := 2) (ret := (some .int)) (by decide) rfl ?_
  intro p e s m args below meth c s₁ B hml hv
  obtain ⟨rfl, hsz, hP, hK, hD0, hT, hX⟩ := hv
  subst hsz
  have hts := atoms_spec (ws := Cond.code yX9_look cX9_look 2 (some .int) :: tb0) B.pre
  have hC : Cx RX9 cX9_look 2 (some .int) p s m _ meth c := ⟨B.exec, B.bytes, hml, findClass_of_methodNamed B.named, fun w q => hts w (List.mem_cons_of_mem _ q), B.returns, B.notSynchronized⟩
  have hw := Wd.entry hP hK hD0 hT hX
  have hl := lv_entry ([.ref a0, .int x1]) (n := 2) (Nat.le_of_ble_eq_true rfl)
  rw [lg_entry_eq]
  exact w_X9_look_0 hC ⟨Nat.le_refl _, Nat.le_refl _⟩ o0 a0 x1 D _ _ _ hi0 hw hl h
set_option maxHeartbeats 4000000 in
set_option maxRecDepth 100000 in
theorem w_X9_judge_205 {r : Int32} {D' : dt} (hC : Cx RX9 cX9_judge 3 (some .int) p s m args meth c) (hR : 8 ≤ R.frames ∧ 228 ≤ R.locals) {k161 : Nat → Int32 → dt → Option (Int32 × dt)} (hk161 : ∀ (o0 a0 : Nat) (x1 : Int32) (D : dt) (H : Heap) (locs : List Loc) (ls : Array Slot), Is S ad o0 a0 8 → Wd G cA S D ad A s H locs → lv_has ls 3 [(0, .ref a0), (1, .int x1)] → k161 o0 x1 D = some (r, D') → W p l e R s m args below meth c H locs 0 0 (MQ below (Qn (some (.int r)) True (wpost G cA S D' ad A) A) args s 0 0 A) (F0 m 161 ls [])) : ∀ (o0 a0 : Nat) (x1 : Int32) (D : dt) (H : Heap) (locs : List Loc) (ls : Array Slot), Is S ad o0 a0 8 → Wd G cA S D ad A s H locs → lv_has ls 3 [(0, .ref a0), (1, .int x1)] → f_X9_judge_205 S k161 o0 x1 D = some (r, D') → W p l e R s m args below meth c H locs 0 0 (MQ below (Qn (some (.int r)) True (wpost G cA S D' ad A) A) args s 0 0 A) (F0 m 205 ls []) := by
  obtain ⟨hx, hb, -⟩ := id hC
  intro o0 a0 x1 D H locs ls hi0 hw hl h
  unfold f_X9_judge_205 at h
  obtain ⟨y85, ey85⟩ : ∃ z : Int32, z = x1 + 1 := ⟨_, rfl⟩
  have h := nm_i h y85 ey85
  refine lv_iinc (v := y85) (lv' := [(1, .int y85), (0, .ref a0)]) hx hb dX9_judge_205 hl (k := 1) rfl (by rw [ey85]; rfl) (by decide) rfl (fun ls hl => ?_)
  refine lv_goto (tgt := 161) hx hb dX9_judge_208 (by decide) ?_
  exact hk161 o0 a0 y85 _ _ _ _ hi0 hw (lv_sub hl [1, 0] rfl) h
set_option maxHeartbeats 4000000 in
set_option maxRecDepth 100000 in
theorem w_X9_judge_161 {r : Int32} {D' : dt} (hC : Cx RX9 cX9_judge 3 (some .int) p s m args meth c) (hR : 8 ≤ R.frames ∧ 228 ≤ R.locals) : ∀ (n : Nat), ∀ (o0 a0 : Nat) (x1 : Int32) (D : dt) (H : Heap) (locs : List Loc) (ls : Array Slot), Is S ad o0 a0 8 → Wd G cA S D ad A s H locs → lv_has ls 3 [(0, .ref a0), (1, .int x1)] → f_X9_judge_161 S n o0 x1 D = some (r, D') → W p l e R s m args below meth c H locs 0 0 (MQ below (Qn (some (.int r)) True (wpost G cA S D' ad A) A) args s 0 0 A) (F0 m 161 ls []) := by
  obtain ⟨hx, hb, -⟩ := id hC
  intro n
  induction n with
  | zero =>
    intro o0 a0 x1 D H locs ls hi0 hw hl h
    rw [f_X9_judge_161.eq_1] at h
    cases h
  | succ n ih =>
    intro o0 a0 x1 D H locs ls hi0 hw hl h
    rw [f_X9_judge_161.eq_2] at h
    refine lv_iload_n hx hb dX9_judge_161 rfl (lv_at hl 1 rfl) ?_
    refine lv_aload_n hx hb dX9_judge_162 rfl (lv_at hl 0 rfl) ?_
    refine r_gI hC hw kc_8 hi0 0 rfl lk_1069 dX9_judge_163 ?_
    refine lv_icmp_ge (tgt := 211) hx hb dX9_judge_166 (by decide) (fun c86 => ?_) (fun c86 => ?_)
    · have h := i_yes c86 h
      refine lv_iconst (v := 0) hx hb dX9_judge_211 (by decide) ?_
      cases h
      exact r_iret hC hw dX9_judge_212
    · have h := i_no c86 h
      refine lv_aload_n hx hb dX9_judge_169 rfl (lv_at hl 0 rfl) ?_
      obtain ⟨o87, ho90, h⟩ := rq_i h
      refine r_getR hC hw kc_8 hi0 27 rfl lk_1096 dX9_judge_170 rfl ho90 (fun a88 hi89 => ?_)
      refine lv_iload_n hx hb dX9_judge_173 rfl (lv_at hl 1 rfl) ?_
      obtain ⟨hn91, h⟩ := ix_i h
      refine r_zald hC hw hi89 hn91 dX9_judge_174 ?_
      refine lv_if_eq (tgt := 205) hx hb dX9_judge_175 (by decide) (fun c92 => ?_) (fun c92 => ?_)
      · have h := i_yes c92 h
        exact w_X9_judge_205 hC hR ih o0 a0 x1 _ _ _ _ hi0 hw (lv_sub hl [0, 1] rfl) h
      · have h := i_no c92 h
        refine lv_aload_n hx hb dX9_judge_178 rfl (lv_at hl 0 rfl) ?_
        refine lv_iload_n hx hb dX9_judge_179 rfl (lv_at hl 1 rfl) ?_
        refine r_pI hC hw kc_8 hi0 46 rfl lk_1115 rfl rfl rfl dX9_judge_180 (fun D93 eD93 H locs hw => ?_)
        have h := nm_i h D93 eD93
        refine lv_aload_n hx hb dX9_judge_183 rfl (lv_at hl 0 rfl) ?_
        refine lv_iload_n hx hb dX9_judge_184 rfl (lv_at hl 1 rfl) ?_
        obtain ⟨_, D95, hq94, h⟩ := cq_i h
        refine r_cV (st' := []) [.int x1] [] hC hw kc_8 hi0 (k_X9_take _ hi0 hq94) mk_X9_take lk_1469 ⟨Nat.le_trans (by decide) hR.1, Nat.le_trans (by decide) hR.2⟩ ⟨Nat.zero_le _, Nat.zero_le _⟩ rfl hl.1 rfl rfl (Nat.le_of_ble_eq_true rfl) dX9_judge_185 (fun hP H locs hw => ?_)
        refine lv_aload_n hx hb dX9_judge_188 rfl (lv_at hl 0 rfl) ?_
        refine lv_iload_n hx hb dX9_judge_189 rfl (lv_at hl 1 rfl) ?_
        obtain ⟨r97, D98, hq96, h⟩ := cq_i h
        refine r_cV (st' := [.int r97]) [.int x1] [] hC hw kc_8 hi0 (k_X9_look _ hi0 hq96) mk_X9_look lk_1473 ⟨Nat.le_trans (by decide) hR.1, Nat.le_trans (by decide) hR.2⟩ ⟨Nat.zero_le _, Nat.zero_le _⟩ rfl hl.1 rfl rfl (Nat.le_of_ble_eq_true rfl) dX9_judge_190 (fun hP H locs hw => ?_)
        refine lv_istore_n (lv' := [(2, .int r97), (0, .ref a0), (1, .int x1)]) hx hb dX9_judge_193 rfl hl (by decide) rfl (fun ls hl => ?_)
        refine lv_iload_n hx hb dX9_judge_194 rfl (lv_at hl 0 rfl) ?_
        refine lv_if_le (tgt := 205) hx hb dX9_judge_195 (by decide) (fun c99 => ?_) (fun c99 => ?_)
        · have h := i_yes c99 h
          exact w_X9_judge_205 hC hR ih o0 a0 x1 _ _ _ _ hi0 hw (lv_sub hl [1, 2] rfl) h
        · have h := i_no c99 h
          refine lv_aload_n hx hb dX9_judge_198 rfl (lv_at hl 1 rfl) ?_
          refine lv_iload_n hx hb dX9_judge_199 rfl (lv_at hl 2 rfl) ?_
          refine r_pI hC hw kc_8 hi0 26 rfl lk_1095 rfl rfl rfl dX9_judge_200 (fun D100 eD100 H locs hw => ?_)
          have h := nm_i h D100 eD100
          refine lv_iload_n hx hb dX9_judge_203 rfl (lv_at hl 0 rfl) ?_
          cases h
          exact r_iret hC hw dX9_judge_204
set_option maxHeartbeats 4000000 in
set_option maxRecDepth 100000 in
theorem w_X9_judge_119 {r : Int32} {D' : dt} (hC : Cx RX9 cX9_judge 3 (some .int) p s m args meth c) (hR : 8 ≤ R.frames ∧ 228 ≤ R.locals) : ∀ (n : Nat), ∀ (o0 a0 : Nat) (x1 : Int32) (D : dt) (H : Heap) (locs : List Loc) (ls : Array Slot), Is S ad o0 a0 8 → Wd G cA S D ad A s H locs → lv_has ls 3 [(0, .ref a0), (1, .int x1)] → f_X9_judge_119 S n o0 x1 D = some (r, D') → W p l e R s m args below meth c H locs 0 0 (MQ below (Qn (some (.int r)) True (wpost G cA S D' ad A) A) args s 0 0 A) (F0 m 119 ls []) := by
  obtain ⟨hx, hb, -⟩ := id hC
  intro n
  induction n with
  | zero =>
    intro o0 a0 x1 D H locs ls hi0 hw hl h
    rw [f_X9_judge_119.eq_1] at h
    cases h
  | succ n ih =>
    intro o0 a0 x1 D H locs ls hi0 hw hl h
    rw [f_X9_judge_119.eq_2] at h
    refine lv_iload_n hx hb dX9_judge_119 rfl (lv_at hl 1 rfl) ?_
    refine lv_sipush (v := 512) hx hb dX9_judge_120 (by decide) ?_
    refine lv_icmp_ge (tgt := 139) hx hb dX9_judge_123 (by decide) (fun c101 => ?_) (fun c101 => ?_)
    · have h := i_yes c101 h
      refine lv_aload_n hx hb dX9_judge_139 rfl (lv_at hl 0 rfl) ?_
      obtain ⟨o102, ho105, h⟩ := rq_i h
      refine r_getR hC hw kc_8 hi0 40 rfl lk_1109 dX9_judge_140 rfl ho105 (fun a103 hi104 => ?_)
      refine lv_iconst (v := 1) hx hb dX9_judge_143 (by decide) ?_
      refine lv_iconst (v := 2) hx hb dX9_judge_144 (by decide) ?_
      obtain ⟨hn106, h⟩ := ix_i h
      refine r_ias hC hw hi104 hn106 dX9_judge_145 (fun D107 eD107 H locs hw => ?_)
      have h := nm_i h D107 eD107
      refine lv_aload_n hx hb dX9_judge_146 rfl (lv_at hl 0 rfl) ?_
      obtain ⟨o108, ho111, h⟩ := rq_i h
      refine r_getR hC hw kc_8 hi0 40 rfl lk_1109 dX9_judge_147 rfl ho111 (fun a109 hi110 => ?_)
      refine lv_bipush (v := 10) hx hb dX9_judge_150 (by decide) ?_
      refine lv_iconst (v := 3) hx hb dX9_judge_152 (by decide) ?_
      obtain ⟨hn112, h⟩ := ix_i h
      refine r_ias hC hw hi110 hn112 dX9_judge_153 (fun D113 eD113 H locs hw => ?_)
      have h := nm_i h D113 eD113
      refine lv_aload_n hx hb dX9_judge_154 rfl (lv_at hl 0 rfl) ?_
      refine lv_iconst (v := 0) hx hb dX9_judge_155 (by decide) ?_
      obtain ⟨_, D115, hq114, h⟩ := cq_i h
      refine r_cV (st' := []) [.int (0 : Int32)] [] hC hw kc_8 hi0 (k_X9_goTo _ hi0 hq114) mk_X9_goTo lk_1455 ⟨Nat.le_trans (by decide) hR.1, Nat.le_trans (by decide) hR.2⟩ ⟨Nat.zero_le _, Nat.zero_le _⟩ rfl hl.1 rfl rfl (Nat.le_of_ble_eq_true rfl) dX9_judge_156 (fun hP H locs hw => ?_)
      refine lv_iconst (v := 0) hx hb dX9_judge_159 (by decide) ?_
      refine lv_topi (fun y116 ey116 => ?_)
      have h := nm_i h y116 ey116
      refine lv_istore_n (lv' := [(1, .int y116), (0, .ref a0)]) hx hb dX9_judge_160 rfl hl (by decide) rfl (fun ls hl => ?_)
      exact w_X9_judge_161 hC hR LF o0 a0 y116 _ _ _ _ hi0 hw (lv_sub hl [1, 0] rfl) h
    · have h := i_no c101 h
      refine lv_aload_n hx hb dX9_judge_126 rfl (lv_at hl 0 rfl) ?_
      obtain ⟨o117, ho120, h⟩ := rq_i h
      refine r_getR hC hw kc_8 hi0 45 rfl lk_1114 dX9_judge_127 rfl ho120 (fun a118 hi119 => ?_)
      refine lv_iload_n hx hb dX9_judge_130 rfl (lv_at hl 1 rfl) ?_
      refine lv_iconst (v := 0) hx hb dX9_judge_131 (by decide) ?_
      obtain ⟨hn121, h⟩ := ix_i h
      refine r_zas hC hw hi119 hn121 dX9_judge_132 (fun D122 eD122 H locs hw => ?_)
      have h := nm_i h D122 eD122
      obtain ⟨y123, ey123⟩ : ∃ z : Int32, z = x1 + 1 := ⟨_, rfl⟩
      have h := nm_i h y123 ey123
      refine lv_iinc (v := y123) (lv' := [(1, .int y123), (0, .ref a0)]) hx hb dX9_judge_133 hl (k := 1) rfl (by rw [ey123]; rfl) (by decide) rfl (fun ls hl => ?_)
      refine lv_goto (tgt := 119) hx hb dX9_judge_136 (by decide) ?_
      exact ih o0 a0 y123 _ _ _ _ hi0 hw (lv_sub hl [1, 0] rfl) h
set_option maxHeartbeats 4000000 in
set_option maxRecDepth 100000 in
theorem w_X9_judge_100 {r : Int32} {D' : dt} (hC : Cx RX9 cX9_judge 3 (some .int) p s m args meth c) (hR : 8 ≤ R.frames ∧ 228 ≤ R.locals) : ∀ (n : Nat), ∀ (o0 a0 : Nat) (x1 : Int32) (D : dt) (H : Heap) (locs : List Loc) (ls : Array Slot), Is S ad o0 a0 8 → Wd G cA S D ad A s H locs → lv_has ls 3 [(0, .ref a0), (1, .int x1)] → f_X9_judge_100 S n o0 x1 D = some (r, D') → W p l e R s m args below meth c H locs 0 0 (MQ below (Qn (some (.int r)) True (wpost G cA S D' ad A) A) args s 0 0 A) (F0 m 100 ls []) := by
  obtain ⟨hx, hb, -⟩ := id hC
  intro n
  induction n with
  | zero =>
    intro o0 a0 x1 D H locs ls hi0 hw hl h
    rw [f_X9_judge_100.eq_1] at h
    cases h
  | succ n ih =>
    intro o0 a0 x1 D H locs ls hi0 hw hl h
    rw [f_X9_judge_100.eq_2] at h
    refine lv_iload_n hx hb dX9_judge_100 rfl (lv_at hl 1 rfl) ?_
    refine lv_bipush (v := 75) hx hb dX9_judge_101 (by decide) ?_
    refine lv_icmp_ge (tgt := 117) hx hb dX9_judge_103 (by decide) (fun c124 => ?_) (fun c124 => ?_)
    · have h := i_yes c124 h
      refine lv_iconst (v := 0) hx hb dX9_judge_117 (by decide) ?_
      refine lv_topi (fun y125 ey125 => ?_)
      have h := nm_i h y125 ey125
      refine lv_istore_n (lv' := [(1, .int y125), (0, .ref a0)]) hx hb dX9_judge_118 rfl hl (by decide) rfl (fun ls hl => ?_)
      exact w_X9_judge_119 hC hR LF o0 a0 y125 _ _ _ _ hi0 hw (lv_sub hl [1, 0] rfl) h
    · have h := i_no c124 h
      refine lv_aload_n hx hb dX9_judge_106 rfl (lv_at hl 0 rfl) ?_
      refine lv_iload_n hx hb dX9_judge_107 rfl (lv_at hl 1 rfl) ?_
      obtain ⟨_, D127, hq126, h⟩ := cq_i h
      refine r_cV (st' := []) [.int x1] [] hC hw kc_8 hi0 (k_X9_forget _ hi0 hq126) mk_X9_forget lk_1451 ⟨Nat.le_trans (by decide) hR.1, Nat.le_trans (by decide) hR.2⟩ ⟨Nat.zero_le _, Nat.zero_le _⟩ rfl hl.1 rfl rfl (Nat.le_of_ble_eq_true rfl) dX9_judge_108 (fun hP H locs hw => ?_)
      obtain ⟨y128, ey128⟩ : ∃ z : Int32, z = x1 + 1 := ⟨_, rfl⟩
      have h := nm_i h y128 ey128
      refine lv_iinc (v := y128) (lv' := [(1, .int y128), (0, .ref a0)]) hx hb dX9_judge_111 hl (k := 1) rfl (by rw [ey128]; rfl) (by decide) rfl (fun ls hl => ?_)
      refine lv_goto (tgt := 100) hx hb dX9_judge_114 (by decide) ?_
      exact ih o0 a0 y128 _ _ _ _ hi0 hw (lv_sub hl [1, 0] rfl) h
set_option maxHeartbeats 4000000 in
set_option maxRecDepth 100000 in
theorem w_X9_judge_91 {r : Int32} {D' : dt} (hC : Cx RX9 cX9_judge 3 (some .int) p s m args meth c) (hR : 8 ≤ R.frames ∧ 228 ≤ R.locals) {k51 : Nat → Int32 → dt → Option (Int32 × dt)} (hk51 : ∀ (o0 a0 : Nat) (x1 : Int32) (D : dt) (H : Heap) (locs : List Loc) (ls : Array Slot), Is S ad o0 a0 8 → Wd G cA S D ad A s H locs → lv_has ls 3 [(0, .ref a0), (1, .int x1)] → k51 o0 x1 D = some (r, D') → W p l e R s m args below meth c H locs 0 0 (MQ below (Qn (some (.int r)) True (wpost G cA S D' ad A) A) args s 0 0 A) (F0 m 51 ls [])) : ∀ (o0 a0 : Nat) (x1 : Int32) (os0 as0 : Nat) (xs1 : Int32) (xs2 : Int32) (D : dt) (H : Heap) (locs : List Loc) (ls : Array Slot), Is S ad o0 a0 8 → Is S ad os0 as0 103 → Wd G cA S D ad A s H locs → lv_has ls 3 [(0, .ref a0), (1, .int x1)] → f_X9_judge_91 S k51 o0 x1 os0 xs1 xs2 D = some (r, D') → W p l e R s m args below meth c H locs 0 0 (MQ below (Qn (some (.int r)) True (wpost G cA S D' ad A) A) args s 0 0 A) (F0 m 91 ls [.int xs2, .int xs1, .ref as0]) := by
  obtain ⟨hx, hb, -⟩ := id hC
  intro o0 a0 x1 os0 as0 xs1 xs2 D H locs ls hi0 his0 hw hl h
  unfold f_X9_judge_91 at h
  obtain ⟨hn129, h⟩ := ix_i h
  refine r_zas hC hw his0 hn129 dX9_judge_91 (fun D130 eD130 H locs hw => ?_)
  have h := nm_i h D130 eD130
  obtain ⟨y131, ey131⟩ : ∃ z : Int32, z = x1 + 1 := ⟨_, rfl⟩
  have h := nm_i h y131 ey131
  refine lv_iinc (v := y131) (lv' := [(1, .int y131), (0, .ref a0)]) hx hb dX9_judge_92 hl (k := 1) rfl (by rw [ey131]; rfl) (by decide) rfl (fun ls hl => ?_)
  refine lv_goto (tgt := 51) hx hb dX9_judge_95 (by decide) ?_
  exact hk51 o0 a0 y131 _ _ _ _ hi0 hw (lv_sub hl [1, 0] rfl) h
set_option maxHeartbeats 4000000 in
set_option maxRecDepth 100000 in
theorem w_X9_judge_90 {r : Int32} {D' : dt} (hC : Cx RX9 cX9_judge 3 (some .int) p s m args meth c) (hR : 8 ≤ R.frames ∧ 228 ≤ R.locals) {k51 : Nat → Int32 → dt → Option (Int32 × dt)} (hk51 : ∀ (o0 a0 : Nat) (x1 : Int32) (D : dt) (H : Heap) (locs : List Loc) (ls : Array Slot), Is S ad o0 a0 8 → Wd G cA S D ad A s H locs → lv_has ls 3 [(0, .ref a0), (1, .int x1)] → k51 o0 x1 D = some (r, D') → W p l e R s m args below meth c H locs 0 0 (MQ below (Qn (some (.int r)) True (wpost G cA S D' ad A) A) args s 0 0 A) (F0 m 51 ls [])) : ∀ (o0 a0 : Nat) (x1 : Int32) (os0 as0 : Nat) (xs1 : Int32) (D : dt) (H : Heap) (locs : List Loc) (ls : Array Slot), Is S ad o0 a0 8 → Is S ad os0 as0 103 → Wd G cA S D ad A s H locs → lv_has ls 3 [(0, .ref a0), (1, .int x1)] → f_X9_judge_90 S k51 o0 x1 os0 xs1 D = some (r, D') → W p l e R s m args below meth c H locs 0 0 (MQ below (Qn (some (.int r)) True (wpost G cA S D' ad A) A) args s 0 0 A) (F0 m 90 ls [.int xs1, .ref as0]) := by
  obtain ⟨hx, hb, -⟩ := id hC
  intro o0 a0 x1 os0 as0 xs1 D H locs ls hi0 his0 hw hl h
  unfold f_X9_judge_90 at h
  refine lv_iconst (v := 0) hx hb dX9_judge_90 (by decide) ?_
  exact w_X9_judge_91 hC hR hk51 o0 a0 x1 os0 as0 xs1 (0 : Int32) _ _ _ _ hi0 his0 hw (lv_sub hl [0, 1] rfl) h
set_option maxHeartbeats 4000000 in
set_option maxRecDepth 100000 in
theorem w_X9_judge_51 {r : Int32} {D' : dt} (hC : Cx RX9 cX9_judge 3 (some .int) p s m args meth c) (hR : 8 ≤ R.frames ∧ 228 ≤ R.locals) : ∀ (n : Nat), ∀ (o0 a0 : Nat) (x1 : Int32) (D : dt) (H : Heap) (locs : List Loc) (ls : Array Slot), Is S ad o0 a0 8 → Wd G cA S D ad A s H locs → lv_has ls 3 [(0, .ref a0), (1, .int x1)] → f_X9_judge_51 S n o0 x1 D = some (r, D') → W p l e R s m args below meth c H locs 0 0 (MQ below (Qn (some (.int r)) True (wpost G cA S D' ad A) A) args s 0 0 A) (F0 m 51 ls []) := by
  obtain ⟨hx, hb, -⟩ := id hC
  intro n
  induction n with
  | zero =>
    intro o0 a0 x1 D H locs ls hi0 hw hl h
    rw [f_X9_judge_51.eq_1] at h
    cases h
  | succ n ih =>
    intro o0 a0 x1 D H locs ls hi0 hw hl h
    rw [f_X9_judge_51.eq_2] at h
    refine lv_iload_n hx hb dX9_judge_51 rfl (lv_at hl 1 rfl) ?_
    refine lv_aload_n hx hb dX9_judge_52 rfl (lv_at hl 0 rfl) ?_
    refine r_gI hC hw kc_8 hi0 0 rfl lk_1069 dX9_judge_53 ?_
    refine lv_icmp_ge (tgt := 98) hx hb dX9_judge_56 (by decide) (fun c132 => ?_) (fun c132 => ?_)
    · have h := i_yes c132 h
      refine lv_iconst (v := 0) hx hb dX9_judge_98 (by decide) ?_
      refine lv_topi (fun y133 ey133 => ?_)
      have h := nm_i h y133 ey133
      refine lv_istore_n (lv' := [(1, .int y133), (0, .ref a0)]) hx hb dX9_judge_99 rfl hl (by decide) rfl (fun ls hl => ?_)
      exact w_X9_judge_100 hC hR LF o0 a0 y133 _ _ _ _ hi0 hw (lv_sub hl [1, 0] rfl) h
    · have h := i_no c132 h
      refine lv_aload_n hx hb dX9_judge_59 rfl (lv_at hl 0 rfl) ?_
      obtain ⟨o134, ho137, h⟩ := rq_i h
      refine r_getR hC hw kc_8 hi0 28 rfl lk_1097 dX9_judge_60 rfl ho137 (fun a135 hi136 => ?_)
      refine lv_iload_n hx hb dX9_judge_63 rfl (lv_at hl 1 rfl) ?_
      refine lv_iconst (v := 1) hx hb dX9_judge_64 (by decide) ?_
      refine lv_iadd hx hb dX9_judge_65 ?_
      refine lv_aload_n hx hb dX9_judge_66 rfl (lv_at hl 0 rfl) ?_
      obtain ⟨o138, ho141, h⟩ := rq_i h
      refine r_getR hC hw kc_8 hi0 1 rfl lk_1070 dX9_judge_67 rfl ho141 (fun a139 hi140 => ?_)
      refine lv_iload_n hx hb dX9_judge_70 rfl (lv_at hl 1 rfl) ?_
      obtain ⟨hn142, h⟩ := ix_i h
      refine r_iald hC hw hi140 hn142 dX9_judge_71 ?_
      refine lv_bipush (v := 24) hx hb dX9_judge_72 (by decide) ?_
      refine lv_icmp_ne (tgt := 90) hx hb dX9_judge_74 (by decide) (fun c143 => ?_) (fun c143 => ?_)
      · have h := i_no c143 h
        exact w_X9_judge_90 hC hR ih o0 a0 x1 o134 a135 (x1 + (1 : Int32)) _ _ _ _ hi0 hi136 hw (lv_sub hl [0, 1] rfl) h
      · have h := i_yes c143 h
        refine lv_aload_n hx hb dX9_judge_77 rfl (lv_at hl 0 rfl) ?_
        obtain ⟨o144, ho147, h⟩ := rq_i h
        refine r_getR hC hw kc_8 hi0 28 rfl lk_1097 dX9_judge_78 rfl ho147 (fun a145 hi146 => ?_)
        refine lv_iload_n hx hb dX9_judge_81 rfl (lv_at hl 1 rfl) ?_
        obtain ⟨hn148, h⟩ := ix_i h
        refine r_zald hC hw hi146 hn148 dX9_judge_82 ?_
        refine lv_if_ne (tgt := 90) hx hb dX9_judge_83 (by decide) (fun c149 => ?_) (fun c149 => ?_)
        · have h := i_no c149 h
          exact w_X9_judge_90 hC hR ih o0 a0 x1 o134 a135 (x1 + (1 : Int32)) _ _ _ _ hi0 hi136 hw (lv_sub hl [0, 1] rfl) h
        · have h := i_yes c149 h
          refine lv_iconst (v := 1) hx hb dX9_judge_86 (by decide) ?_
          refine lv_goto (tgt := 91) hx hb dX9_judge_87 (by decide) ?_
          exact w_X9_judge_91 hC hR ih o0 a0 x1 o134 a135 (x1 + (1 : Int32)) (1 : Int32) _ _ _ _ hi0 hi136 hw (lv_sub hl [0, 1] rfl) h
set_option maxHeartbeats 4000000 in
set_option maxRecDepth 100000 in
theorem w_X9_judge_7 {r : Int32} {D' : dt} (hC : Cx RX9 cX9_judge 3 (some .int) p s m args meth c) (hR : 8 ≤ R.frames ∧ 228 ≤ R.locals) : ∀ (n : Nat), ∀ (o0 a0 : Nat) (x1 : Int32) (D : dt) (H : Heap) (locs : List Loc) (ls : Array Slot), Is S ad o0 a0 8 → Wd G cA S D ad A s H locs → lv_has ls 3 [(0, .ref a0), (1, .int x1)] → f_X9_judge_7 S n o0 x1 D = some (r, D') → W p l e R s m args below meth c H locs 0 0 (MQ below (Qn (some (.int r)) True (wpost G cA S D' ad A) A) args s 0 0 A) (F0 m 7 ls []) := by
  obtain ⟨hx, hb, -⟩ := id hC
  intro n
  induction n with
  | zero =>
    intro o0 a0 x1 D H locs ls hi0 hw hl h
    rw [f_X9_judge_7.eq_1] at h
    cases h
  | succ n ih =>
    intro o0 a0 x1 D H locs ls hi0 hw hl h
    rw [f_X9_judge_7.eq_2] at h
    refine lv_iload_n hx hb dX9_judge_7 rfl (lv_at hl 1 rfl) ?_
    refine lv_sipush (v := 200) hx hb dX9_judge_8 (by decide) ?_
    refine lv_icmp_ge (tgt := 34) hx hb dX9_judge_11 (by decide) (fun c150 => ?_) (fun c150 => ?_)
    · have h := i_yes c150 h
      refine lv_aload_n hx hb dX9_judge_34 rfl (lv_at hl 0 rfl) ?_
      refine r_gI hC hw kc_8 hi0 0 rfl lk_1069 dX9_judge_35 ?_
      refine lv_if_ne (tgt := 49) hx hb dX9_judge_38 (by decide) (fun c151 => ?_) (fun c151 => ?_)
      · have h := i_no c151 h
        refine lv_iconst (v := 0) hx hb dX9_judge_49 (by decide) ?_
        refine lv_topi (fun y152 ey152 => ?_)
        have h := nm_i h y152 ey152
        refine lv_istore_n (lv' := [(1, .int y152), (0, .ref a0)]) hx hb dX9_judge_50 rfl hl (by decide) rfl (fun ls hl => ?_)
        exact w_X9_judge_51 hC hR LF o0 a0 y152 _ _ _ _ hi0 hw (lv_sub hl [1, 0] rfl) h
      · have h := i_yes c151 h
        refine lv_aload_n hx hb dX9_judge_41 rfl (lv_at hl 0 rfl) ?_
        refine lv_iconst (v := 0) hx hb dX9_judge_42 (by decide) ?_
        refine r_pI hC hw kc_8 hi0 26 rfl lk_1095 rfl rfl rfl dX9_judge_43 (fun D153 eD153 H locs hw => ?_)
        have h := nm_i h D153 eD153
        refine lv_bipush (v := 6) hx hb dX9_judge_46 (by decide) ?_
        cases h
        exact r_iret hC hw dX9_judge_48
    · have h := i_no c150 h
      refine lv_aload_n hx hb dX9_judge_14 rfl (lv_at hl 0 rfl) ?_
      obtain ⟨o154, ho157, h⟩ := rq_i h
      refine r_getR hC hw kc_8 hi0 27 rfl lk_1096 dX9_judge_15 rfl ho157 (fun a155 hi156 => ?_)
      refine lv_iload_n hx hb dX9_judge_18 rfl (lv_at hl 1 rfl) ?_
      refine lv_iconst (v := 0) hx hb dX9_judge_19 (by decide) ?_
      obtain ⟨hn158, h⟩ := ix_i h
      refine r_zas hC hw hi156 hn158 dX9_judge_20 (fun D159 eD159 H locs hw => ?_)
      have h := nm_i h D159 eD159
      refine lv_aload_n hx hb dX9_judge_21 rfl (lv_at hl 0 rfl) ?_
      obtain ⟨o160, ho163, h⟩ := rq_i h
      refine r_getR hC hw kc_8 hi0 28 rfl lk_1097 dX9_judge_22 rfl ho163 (fun a161 hi162 => ?_)
      refine lv_iload_n hx hb dX9_judge_25 rfl (lv_at hl 1 rfl) ?_
      refine lv_iconst (v := 0) hx hb dX9_judge_26 (by decide) ?_
      obtain ⟨hn164, h⟩ := ix_i h
      refine r_zas hC hw hi162 hn164 dX9_judge_27 (fun D165 eD165 H locs hw => ?_)
      have h := nm_i h D165 eD165
      obtain ⟨y166, ey166⟩ : ∃ z : Int32, z = x1 + 1 := ⟨_, rfl⟩
      have h := nm_i h y166 ey166
      refine lv_iinc (v := y166) (lv' := [(1, .int y166), (0, .ref a0)]) hx hb dX9_judge_28 hl (k := 1) rfl (by rw [ey166]; rfl) (by decide) rfl (fun ls hl => ?_)
      refine lv_goto (tgt := 7) hx hb dX9_judge_31 (by decide) ?_
      exact ih o0 a0 y166 _ _ _ _ hi0 hw (lv_sub hl [1, 0] rfl) h
set_option maxHeartbeats 4000000 in
set_option maxRecDepth 100000 in
theorem w_X9_judge_0 {r : Int32} {D' : dt} (hC : Cx RX9 cX9_judge 3 (some .int) p s m args meth c) (hR : 8 ≤ R.frames ∧ 228 ≤ R.locals) : ∀ (o0 a0 : Nat) (D : dt) (H : Heap) (locs : List Loc) (ls : Array Slot), Is S ad o0 a0 8 → Wd G cA S D ad A s H locs → lv_has ls 3 [(0, .ref a0)] → f_X9_judge S o0 D = some (r, D') → W p l e R s m args below meth c H locs 0 0 (MQ below (Qn (some (.int r)) True (wpost G cA S D' ad A) A) args s 0 0 A) (F0 m 0 ls []) := by
  obtain ⟨hx, hb, -⟩ := id hC
  intro o0 a0 D H locs ls hi0 hw hl h
  unfold f_X9_judge at h
  refine lv_aload_n hx hb dX9_judge_0 rfl (lv_at hl 0 rfl) ?_
  refine lv_iconst (v := (-1)) hx hb dX9_judge_1 (by decide) ?_
  refine r_pI hC hw kc_8 hi0 26 rfl lk_1095 rfl rfl rfl dX9_judge_2 (fun D167 eD167 H locs hw => ?_)
  have h := nm_i h D167 eD167
  refine lv_iconst (v := 0) hx hb dX9_judge_5 (by decide) ?_
  refine lv_topi (fun y168 ey168 => ?_)
  have h := nm_i h y168 ey168
  refine lv_istore_n (lv' := [(1, .int y168), (0, .ref a0)]) hx hb dX9_judge_6 rfl hl (by decide) rfl (fun ls hl => ?_)
  exact w_X9_judge_7 hC hR LF o0 a0 y168 _ _ _ _ hi0 hw (lv_sub hl [1, 0] rfl) h
set_option maxHeartbeats 4000000 in
set_option maxRecDepth 100000 in
theorem k_X9_judge {l : Launch} {G : va_G} {cA : Nat → ClassId} {S : sh} {D D' : dt} {ad : Nat → Nat} (sz : Nat) {o0 a0 : Nat} {r : Int32} (hi0 : Is S ad o0 a0 8) (h : f_X9_judge S o0 D = some (r, D')) : Co l yX9_judge (Cond.code yX9_judge cX9_judge 3 (some .int) :: tb0) 8 228 [.ref a0] G cA S D ad sz (some (.int r)) True D' := by
  refine Met.ofW (cc := cX9_judge) (maxL := 3) (ret := (some .int)) (by decide) rfl ?_
  intro p e s m args below meth c s₁ B hml hv
  obtain ⟨rfl, hsz, hP, hK, hD0, hT, hX⟩ := hv
  subst hsz
  have hts := atoms_spec (ws := Cond.code yX9_judge cX9_judge 3 (some .int) :: tb0) B.pre
  have hC : Cx RX9 cX9_judge 3 (some .int) p s m _ meth c := ⟨B.exec, B.bytes, hml, findClass_of_methodNamed B.named, fun w q => hts w (List.mem_cons_of_mem _ q), B.returns, B.notSynchronized⟩
  have hw := Wd.entry hP hK hD0 hT hX
  have hl := lv_entry ([.ref a0]) (n := 3) (Nat.le_of_ble_eq_true rfl)
  rw [lg_entry_eq]
  exact w_X9_judge_0 hC ⟨Nat.le_refl _, Nat.le_refl _⟩ o0 a0 D _ _ _ hi0 hw hl h
set_option maxHeartbeats 4000000 in
set_option maxRecDepth 100000 in
theorem w_X9_place_0 {r : Int32} {D' : dt} (hC : Cx RX9 cX9_place 1 (some .int) p s m args meth c) (hR : 0 ≤ R.frames ∧ 0 ≤ R.locals) : ∀ (o0 a0 : Nat) (D : dt) (H : Heap) (locs : List Loc) (ls : Array Slot), Is S ad o0 a0 8 → Wd G cA S D ad A s H locs → lv_has ls 1 [(0, .ref a0)] → f_X9_place S o0 D = some (r, D') → W p l e R s m args below meth c H locs 0 0 (MQ below (Qn (some (.int r)) True (wpost G cA S D' ad A) A) args s 0 0 A) (F0 m 0 ls []) := by
  obtain ⟨hx, hb, -⟩ := id hC
  intro o0 a0 D H locs ls hi0 hw hl h
  unfold f_X9_place at h
  refine lv_aload_n hx hb dX9_place_0 rfl (lv_at hl 0 rfl) ?_
  refine r_gI hC hw kc_8 hi0 26 rfl lk_1095 dX9_place_1 ?_
  cases h
  exact r_iret hC hw dX9_place_4
set_option maxHeartbeats 4000000 in
set_option maxRecDepth 100000 in
theorem k_X9_place {l : Launch} {G : va_G} {cA : Nat → ClassId} {S : sh} {D D' : dt} {ad : Nat → Nat} (sz : Nat) {o0 a0 : Nat} {r : Int32} (hi0 : Is S ad o0 a0 8) (h : f_X9_place S o0 D = some (r, D')) : Co l yX9_place (Cond.code yX9_place cX9_place 1 (some .int) :: tb0) 0 0 [.ref a0] G cA S D ad sz (some (.int r)) True D' := by
  refine Met.ofW (cc := cX9_place) (maxL := 1) (ret := (some .int)) (by decide) rfl ?_
  intro p e s m args below meth c s₁ B hml hv
  obtain ⟨rfl, hsz, hP, hK, hD0, hT, hX⟩ := hv
  subst hsz
  have hts := atoms_spec (ws := Cond.code yX9_place cX9_place 1 (some .int) :: tb0) B.pre
  have hC : Cx RX9 cX9_place 1 (some .int) p s m _ meth c := ⟨B.exec, B.bytes, hml, findClass_of_methodNamed B.named, fun w q => hts w (List.mem_cons_of_mem _ q), B.returns, B.notSynchronized⟩
  have hw := Wd.entry hP hK hD0 hT hX
  have hl := lv_entry ([.ref a0]) (n := 1) (Nat.le_of_ble_eq_true rfl)
  rw [lg_entry_eq]
  exact w_X9_place_0 hC ⟨Nat.le_refl _, Nat.le_refl _⟩ o0 a0 D _ _ _ hi0 hw hl h
end

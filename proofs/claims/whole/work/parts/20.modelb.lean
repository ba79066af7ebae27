theorem dX9_putKind_0 : decode cX9_putKind 0 = .ok (.aload_n 0, 1) := by decide +kernel
theorem dX9_putKind_1 : decode cX9_putKind 1 = .ok (.getfield 13, 3) := by decide +kernel
theorem dX9_putKind_4 : decode cX9_putKind 4 = .ok (.iload_n 1, 1) := by decide +kernel
theorem dX9_putKind_5 : decode cX9_putKind 5 = .ok (.iaload, 1) := by decide +kernel
theorem dX9_putKind_6 : decode cX9_putKind 6 = .ok (.bipush 11, 2) := by decide +kernel
theorem dX9_putKind_8 : decode cX9_putKind 8 = .ok (.if_icmp .ge 14, 3) := by decide +kernel
theorem dX9_putKind_11 : decode cX9_putKind 11 = .ok (.aload_n 0, 1) := by decide +kernel
theorem dX9_putKind_12 : decode cX9_putKind 12 = .ok (.getfield 16, 3) := by decide +kernel
theorem dX9_putKind_15 : decode cX9_putKind 15 = .ok (.iload_n 1, 1) := by decide +kernel
theorem dX9_putKind_16 : decode cX9_putKind 16 = .ok (.iaload, 1) := by decide +kernel
theorem dX9_putKind_17 : decode cX9_putKind 17 = .ok (.bipush 11, 2) := by decide +kernel
theorem dX9_putKind_19 : decode cX9_putKind 19 = .ok (.if_icmp .lt 5, 3) := by decide +kernel
theorem dX9_putKind_22 : decode cX9_putKind 22 = .ok (.iconst 0, 1) := by decide +kernel
theorem dX9_putKind_23 : decode cX9_putKind 23 = .ok (.ireturn, 1) := by decide +kernel
theorem dX9_putKind_24 : decode cX9_putKind 24 = .ok (.aload_n 0, 1) := by decide +kernel
theorem dX9_putKind_25 : decode cX9_putKind 25 = .ok (.getfield 7, 3) := by decide +kernel
theorem dX9_putKind_28 : decode cX9_putKind 28 = .ok (.iload_n 1, 1) := by decide +kernel
theorem dX9_putKind_29 : decode cX9_putKind 29 = .ok (.iaload, 1) := by decide +kernel
theorem dX9_putKind_30 : decode cX9_putKind 30 = .ok (.bipush (-25), 2) := by decide +kernel
theorem dX9_putKind_32 : decode cX9_putKind 32 = .ok (.iand, 1) := by decide +kernel
theorem dX9_putKind_33 : decode cX9_putKind 33 = .ok (.bipush 99, 2) := by decide +kernel
theorem dX9_putKind_35 : decode cX9_putKind 35 = .ok (.if_icmp .ne 19, 3) := by decide +kernel
theorem dX9_putKind_38 : decode cX9_putKind 38 = .ok (.aload_n 0, 1) := by decide +kernel
theorem dX9_putKind_39 : decode cX9_putKind 39 = .ok (.getfield 22, 3) := by decide +kernel
theorem dX9_putKind_42 : decode cX9_putKind 42 = .ok (.iload_n 1, 1) := by decide +kernel
theorem dX9_putKind_43 : decode cX9_putKind 43 = .ok (.iaload, 1) := by decide +kernel
theorem dX9_putKind_44 : decode cX9_putKind 44 = .ok (.ifCond .ne 8, 3) := by decide +kernel
theorem dX9_putKind_47 : decode cX9_putKind 47 = .ok (.bipush 9, 2) := by decide +kernel
theorem dX9_putKind_49 : decode cX9_putKind 49 = .ok (.goto 4, 3) := by decide +kernel
theorem dX9_putKind_52 : decode cX9_putKind 52 = .ok (.iconst 0, 1) := by decide +kernel
theorem dX9_putKind_53 : decode cX9_putKind 53 = .ok (.ireturn, 1) := by decide +kernel
theorem dX9_putKind_54 : decode cX9_putKind 54 = .ok (.aload_n 0, 1) := by decide +kernel
theorem dX9_putKind_55 : decode cX9_putKind 55 = .ok (.getfield 7, 3) := by decide +kernel
theorem dX9_putKind_58 : decode cX9_putKind 58 = .ok (.iload_n 1, 1) := by decide +kernel
theorem dX9_putKind_59 : decode cX9_putKind 59 = .ok (.iaload, 1) := by decide +kernel
theorem dX9_putKind_60 : decode cX9_putKind 60 = .ok (.sipush 195, 3) := by decide +kernel
theorem dX9_putKind_63 : decode cX9_putKind 63 = .ok (.if_icmp .eq 17, 3) := by decide +kernel
theorem dX9_putKind_66 : decode cX9_putKind 66 = .ok (.aload_n 0, 1) := by decide +kernel
theorem dX9_putKind_67 : decode cX9_putKind 67 = .ok (.getfield 7, 3) := by decide +kernel
theorem dX9_putKind_70 : decode cX9_putKind 70 = .ok (.iload_n 1, 1) := by decide +kernel
theorem dX9_putKind_71 : decode cX9_putKind 71 = .ok (.iaload, 1) := by decide +kernel
theorem dX9_putKind_72 : decode cX9_putKind 72 = .ok (.sipush 219, 3) := by decide +kernel
theorem dX9_putKind_75 : decode cX9_putKind 75 = .ok (.if_icmp .eq 5, 3) := by decide +kernel
theorem dX9_putKind_78 : decode cX9_putKind 78 = .ok (.iconst 0, 1) := by decide +kernel
theorem dX9_putKind_79 : decode cX9_putKind 79 = .ok (.ireturn, 1) := by decide +kernel
theorem dX9_putKind_80 : decode cX9_putKind 80 = .ok (.aload_n 0, 1) := by decide +kernel
theorem dX9_putKind_81 : decode cX9_putKind 81 = .ok (.getfield 22, 3) := by decide +kernel
theorem dX9_putKind_84 : decode cX9_putKind 84 = .ok (.iload_n 1, 1) := by decide +kernel
theorem dX9_putKind_85 : decode cX9_putKind 85 = .ok (.iaload, 1) := by decide +kernel
theorem dX9_putKind_86 : decode cX9_putKind 86 = .ok (.istore_n 2, 1) := by decide +kernel
theorem dX9_putKind_87 : decode cX9_putKind 87 = .ok (.iload_n 2, 1) := by decide +kernel
theorem dX9_putKind_88 : decode cX9_putKind 88 = .ok (.sipush 241, 3) := by decide +kernel
theorem dX9_putKind_91 : decode cX9_putKind 91 = .ok (.if_icmp .eq 26, 3) := by decide +kernel
theorem dX9_putKind_94 : decode cX9_putKind 94 = .ok (.iload_n 2, 1) := by decide +kernel
theorem dX9_putKind_95 : decode cX9_putKind 95 = .ok (.ifCond .eq 22, 3) := by decide +kernel
theorem dX9_putKind_98 : decode cX9_putKind 98 = .ok (.iload_n 2, 1) := by decide +kernel
theorem dX9_putKind_99 : decode cX9_putKind 99 = .ok (.bipush 64, 2) := by decide +kernel
theorem dX9_putKind_101 : decode cX9_putKind 101 = .ok (.if_icmp .eq 16, 3) := by decide +kernel
theorem dX9_putKind_104 : decode cX9_putKind 104 = .ok (.iload_n 2, 1) := by decide +kernel
theorem dX9_putKind_105 : decode cX9_putKind 105 = .ok (.bipush 80, 2) := by decide +kernel
theorem dX9_putKind_107 : decode cX9_putKind 107 = .ok (.if_icmp .eq 10, 3) := by decide +kernel
theorem dX9_putKind_110 : decode cX9_putKind 110 = .ok (.iload_n 2, 1) := by decide +kernel
theorem dX9_putKind_111 : decode cX9_putKind 111 = .ok (.sipush 160, 3) := by decide +kernel
theorem dX9_putKind_114 : decode cX9_putKind 114 = .ok (.if_icmp .ne 6, 3) := by decide +kernel
theorem dX9_putKind_117 : decode cX9_putKind 117 = .ok (.bipush 10, 2) := by decide +kernel
theorem dX9_putKind_119 : decode cX9_putKind 119 = .ok (.ireturn, 1) := by decide +kernel
theorem dX9_putKind_120 : decode cX9_putKind 120 = .ok (.iload_n 2, 1) := by decide +kernel
theorem dX9_putKind_121 : decode cX9_putKind 121 = .ok (.iconst 1, 1) := by decide +kernel
theorem dX9_putKind_122 : decode cX9_putKind 122 = .ok (.if_icmp .eq 29, 3) := by decide +kernel
theorem dX9_putKind_125 : decode cX9_putKind 125 = .ok (.iload_n 2, 1) := by decide +kernel
theorem dX9_putKind_126 : decode cX9_putKind 126 = .ok (.bipush 65, 2) := by decide +kernel
theorem dX9_putKind_128 : decode cX9_putKind 128 = .ok (.if_icmp .eq 23, 3) := by decide +kernel
theorem dX9_putKind_131 : decode cX9_putKind 131 = .ok (.iload_n 2, 1) := by decide +kernel
theorem dX9_putKind_132 : decode cX9_putKind 132 = .ok (.bipush 81, 2) := by decide +kernel
theorem dX9_putKind_134 : decode cX9_putKind 134 = .ok (.if_icmp .eq 17, 3) := by decide +kernel
theorem dX9_putKind_137 : decode cX9_putKind 137 = .ok (.iload_n 2, 1) := by decide +kernel
theorem dX9_putKind_138 : decode cX9_putKind 138 = .ok (.sipush 161, 3) := by decide +kernel
theorem dX9_putKind_141 : decode cX9_putKind 141 = .ok (.if_icmp .eq 10, 3) := by decide +kernel
theorem dX9_putKind_144 : decode cX9_putKind 144 = .ok (.iload_n 2, 1) := by decide +kernel
theorem dX9_putKind_145 : decode cX9_putKind 145 = .ok (.sipush 225, 3) := by decide +kernel
theorem dX9_putKind_148 : decode cX9_putKind 148 = .ok (.if_icmp .ne 19, 3) := by decide +kernel
theorem dX9_putKind_151 : decode cX9_putKind 151 = .ok (.aload_n 0, 1) := by decide +kernel
theorem dX9_putKind_152 : decode cX9_putKind 152 = .ok (.getfield 16, 3) := by decide +kernel
theorem dX9_putKind_155 : decode cX9_putKind 155 = .ok (.iload_n 1, 1) := by decide +kernel
theorem dX9_putKind_156 : decode cX9_putKind 156 = .ok (.iaload, 1) := by decide +kernel
theorem dX9_putKind_157 : decode cX9_putKind 157 = .ok (.bipush 10, 2) := by decide +kernel
theorem dX9_putKind_159 : decode cX9_putKind 159 = .ok (.if_icmp .ge 8, 3) := by decide +kernel
theorem dX9_putKind_162 : decode cX9_putKind 162 = .ok (.bipush 10, 2) := by decide +kernel
theorem dX9_putKind_164 : decode cX9_putKind 164 = .ok (.goto 4, 3) := by decide +kernel
theorem dX9_putKind_167 : decode cX9_putKind 167 = .ok (.iconst 0, 1) := by decide +kernel
theorem dX9_putKind_168 : decode cX9_putKind 168 = .ok (.ireturn, 1) := by decide +kernel
theorem dX9_kindOf_0 : decode cX9_kindOf 0 = .ok (.aload_n 0, 1) := by decide +kernel
theorem dX9_kindOf_1 : decode cX9_kindOf 1 = .ok (.getfield 7, 3) := by decide +kernel
theorem dX9_kindOf_4 : decode cX9_kindOf 4 = .ok (.iload_n 1, 1) := by decide +kernel
theorem dX9_kindOf_5 : decode cX9_kindOf 5 = .ok (.iaload, 1) := by decide +kernel
theorem dX9_kindOf_6 : decode cX9_kindOf 6 = .ok (.bipush 7, 2) := by decide +kernel
theorem dX9_kindOf_8 : decode cX9_kindOf 8 = .ok (.iand, 1) := by decide +kernel
theorem dX9_kindOf_9 : decode cX9_kindOf 9 = .ok (.istore_n 2, 1) := by decide +kernel
theorem dX9_kindOf_10 : decode cX9_kindOf 10 = .ok (.iload_n 2, 1) := by decide +kernel
theorem dX9_kindOf_11 : decode cX9_kindOf 11 = .ok (.tableswitch 135 1 7 #[82, 88, 129, 41, 66, 66, 41], 41) := by decide +kernel
theorem dX9_kindOf_52 : decode cX9_kindOf 52 = .ok (.aload_n 0, 1) := by decide +kernel
theorem dX9_kindOf_53 : decode cX9_kindOf 53 = .ok (.iload_n 1, 1) := by decide +kernel
theorem dX9_kindOf_54 : decode cX9_kindOf 54 = .ok (.iload_n 2, 1) := by decide +kernel
theorem dX9_kindOf_55 : decode cX9_kindOf 55 = .ok (.bipush 7, 2) := by decide +kernel
theorem dX9_kindOf_57 : decode cX9_kindOf 57 = .ok (.if_icmp .ne 7, 3) := by decide +kernel
theorem dX9_kindOf_60 : decode cX9_kindOf 60 = .ok (.iconst 1, 1) := by decide +kernel
theorem dX9_kindOf_61 : decode cX9_kindOf 61 = .ok (.goto 4, 3) := by decide +kernel
theorem dX9_kindOf_64 : decode cX9_kindOf 64 = .ok (.iconst 0, 1) := by decide +kernel
theorem dX9_kindOf_65 : decode cX9_kindOf 65 = .ok (.invokevirtual 154, 3) := by decide +kernel
theorem dX9_kindOf_68 : decode cX9_kindOf 68 = .ok (.ifCond .eq 7, 3) := by decide +kernel
theorem dX9_kindOf_71 : decode cX9_kindOf 71 = .ok (.iconst 1, 1) := by decide +kernel
theorem dX9_kindOf_72 : decode cX9_kindOf 72 = .ok (.goto 4, 3) := by decide +kernel
theorem dX9_kindOf_75 : decode cX9_kindOf 75 = .ok (.iconst 0, 1) := by decide +kernel
theorem dX9_kindOf_76 : decode cX9_kindOf 76 = .ok (.ireturn, 1) := by decide +kernel
theorem dX9_kindOf_77 : decode cX9_kindOf 77 = .ok (.aload_n 0, 1) := by decide +kernel
theorem dX9_kindOf_78 : decode cX9_kindOf 78 = .ok (.iload_n 1, 1) := by decide +kernel
theorem dX9_kindOf_79 : decode cX9_kindOf 79 = .ok (.iload_n 2, 1) := by decide +kernel
theorem dX9_kindOf_80 : decode cX9_kindOf 80 = .ok (.iconst 5, 1) := by decide +kernel
theorem dX9_kindOf_81 : decode cX9_kindOf 81 = .ok (.if_icmp .ne 7, 3) := by decide +kernel
theorem dX9_kindOf_84 : decode cX9_kindOf 84 = .ok (.iconst 1, 1) := by decide +kernel
theorem dX9_kindOf_85 : decode cX9_kindOf 85 = .ok (.goto 4, 3) := by decide +kernel
theorem dX9_kindOf_88 : decode cX9_kindOf 88 = .ok (.iconst 0, 1) := by decide +kernel
theorem dX9_kindOf_89 : decode cX9_kindOf 89 = .ok (.invokevirtual 158, 3) := by decide +kernel
theorem dX9_kindOf_92 : decode cX9_kindOf 92 = .ok (.ireturn, 1) := by decide +kernel
theorem dX9_kindOf_93 : decode cX9_kindOf 93 = .ok (.aload_n 0, 1) := by decide +kernel
theorem dX9_kindOf_94 : decode cX9_kindOf 94 = .ok (.iload_n 1, 1) := by decide +kernel
theorem dX9_kindOf_95 : decode cX9_kindOf 95 = .ok (.invokevirtual 162, 3) := by decide +kernel
theorem dX9_kindOf_98 : decode cX9_kindOf 98 = .ok (.ireturn, 1) := by decide +kernel
theorem dX9_kindOf_99 : decode cX9_kindOf 99 = .ok (.aload_n 0, 1) := by decide +kernel
theorem dX9_kindOf_100 : decode cX9_kindOf 100 = .ok (.getfield 7, 3) := by decide +kernel
theorem dX9_kindOf_103 : decode cX9_kindOf 103 = .ok (.iload_n 1, 1) := by decide +kernel
theorem dX9_kindOf_104 : decode cX9_kindOf 104 = .ok (.iaload, 1) := by decide +kernel
theorem dX9_kindOf_105 : decode cX9_kindOf 105 = .ok (.bipush (-25), 2) := by decide +kernel
theorem dX9_kindOf_107 : decode cX9_kindOf 107 = .ok (.iand, 1) := by decide +kernel
theorem dX9_kindOf_108 : decode cX9_kindOf 108 = .ok (.bipush 98, 2) := by decide +kernel
theorem dX9_kindOf_110 : decode cX9_kindOf 110 = .ok (.if_icmp .ne 28, 3) := by decide +kernel
theorem dX9_kindOf_113 : decode cX9_kindOf 113 = .ok (.aload_n 0, 1) := by decide +kernel
theorem dX9_kindOf_114 : decode cX9_kindOf 114 = .ok (.getfield 16, 3) := by decide +kernel
theorem dX9_kindOf_117 : decode cX9_kindOf 117 = .ok (.iload_n 1, 1) := by decide +kernel
theorem dX9_kindOf_118 : decode cX9_kindOf 118 = .ok (.iaload, 1) := by decide +kernel
theorem dX9_kindOf_119 : decode cX9_kindOf 119 = .ok (.ifCond .ne 19, 3) := by decide +kernel
theorem dX9_kindOf_122 : decode cX9_kindOf 122 = .ok (.aload_n 0, 1) := by decide +kernel
theorem dX9_kindOf_123 : decode cX9_kindOf 123 = .ok (.getfield 13, 3) := by decide +kernel
theorem dX9_kindOf_126 : decode cX9_kindOf 126 = .ok (.iload_n 1, 1) := by decide +kernel
theorem dX9_kindOf_127 : decode cX9_kindOf 127 = .ok (.iaload, 1) := by decide +kernel
theorem dX9_kindOf_128 : decode cX9_kindOf 128 = .ok (.bipush 11, 2) := by decide +kernel
theorem dX9_kindOf_130 : decode cX9_kindOf 130 = .ok (.if_icmp .ge 8, 3) := by decide +kernel
theorem dX9_kindOf_133 : decode cX9_kindOf 133 = .ok (.bipush 8, 2) := by decide +kernel
theorem dX9_kindOf_135 : decode cX9_kindOf 135 = .ok (.goto 4, 3) := by decide +kernel
theorem dX9_kindOf_138 : decode cX9_kindOf 138 = .ok (.iconst 0, 1) := by decide +kernel
theorem dX9_kindOf_139 : decode cX9_kindOf 139 = .ok (.ireturn, 1) := by decide +kernel
theorem dX9_kindOf_140 : decode cX9_kindOf 140 = .ok (.aload_n 0, 1) := by decide +kernel
theorem dX9_kindOf_141 : decode cX9_kindOf 141 = .ok (.iload_n 1, 1) := by decide +kernel
theorem dX9_kindOf_142 : decode cX9_kindOf 142 = .ok (.invokevirtual 166, 3) := by decide +kernel
theorem dX9_kindOf_145 : decode cX9_kindOf 145 = .ok (.ireturn, 1) := by decide +kernel
theorem dX9_kindOf_146 : decode cX9_kindOf 146 = .ok (.aload_n 0, 1) := by decide +kernel
theorem dX9_kindOf_147 : decode cX9_kindOf 147 = .ok (.getfield 7, 3) := by decide +kernel
theorem dX9_kindOf_150 : decode cX9_kindOf 150 = .ok (.iload_n 1, 1) := by decide +kernel
theorem dX9_kindOf_151 : decode cX9_kindOf 151 = .ok (.iaload, 1) := by decide +kernel
theorem dX9_kindOf_152 : decode cX9_kindOf 152 = .ok (.bipush 24, 2) := by decide +kernel
theorem dX9_kindOf_154 : decode cX9_kindOf 154 = .ok (.if_icmp .ne 38, 3) := by decide +kernel
theorem dX9_kindOf_157 : decode cX9_kindOf 157 = .ok (.aload_n 0, 1) := by decide +kernel
theorem dX9_kindOf_158 : decode cX9_kindOf 158 = .ok (.getfield 16, 3) := by decide +kernel
theorem dX9_kindOf_161 : decode cX9_kindOf 161 = .ok (.iload_n 1, 1) := by decide +kernel
theorem dX9_kindOf_162 : decode cX9_kindOf 162 = .ok (.iaload, 1) := by decide +kernel
theorem dX9_kindOf_163 : decode cX9_kindOf 163 = .ok (.iconst 2, 1) := by decide +kernel
theorem dX9_kindOf_164 : decode cX9_kindOf 164 = .ok (.if_icmp .ge 28, 3) := by decide +kernel
theorem dX9_kindOf_167 : decode cX9_kindOf 167 = .ok (.aload_n 0, 1) := by decide +kernel
theorem dX9_kindOf_168 : decode cX9_kindOf 168 = .ok (.getfield 13, 3) := by decide +kernel
theorem dX9_kindOf_171 : decode cX9_kindOf 171 = .ok (.iload_n 1, 1) := by decide +kernel
theorem dX9_kindOf_172 : decode cX9_kindOf 172 = .ok (.iaload, 1) := by decide +kernel
theorem dX9_kindOf_173 : decode cX9_kindOf 173 = .ok (.bipush 10, 2) := by decide +kernel
theorem dX9_kindOf_175 : decode cX9_kindOf 175 = .ok (.if_icmp .ge 17, 3) := by decide +kernel
theorem dX9_kindOf_178 : decode cX9_kindOf 178 = .ok (.aload_n 0, 1) := by decide +kernel
theorem dX9_kindOf_179 : decode cX9_kindOf 179 = .ok (.getfield 19, 3) := by decide +kernel
theorem dX9_kindOf_182 : decode cX9_kindOf 182 = .ok (.iload_n 1, 1) := by decide +kernel
theorem dX9_kindOf_183 : decode cX9_kindOf 183 = .ok (.iaload, 1) := by decide +kernel
theorem dX9_kindOf_184 : decode cX9_kindOf 184 = .ok (.ifCond .ne 8, 3) := by decide +kernel
theorem dX9_kindOf_187 : decode cX9_kindOf 187 = .ok (.bipush 11, 2) := by decide +kernel
theorem dX9_kindOf_189 : decode cX9_kindOf 189 = .ok (.goto 4, 3) := by decide +kernel
theorem dX9_kindOf_192 : decode cX9_kindOf 192 = .ok (.iconst 0, 1) := by decide +kernel
theorem dX9_kindOf_193 : decode cX9_kindOf 193 = .ok (.ireturn, 1) := by decide +kernel
theorem dX9_widthOf_0 : decode cX9_widthOf 0 = .ok (.aload_n 0, 1) := by decide +kernel
theorem dX9_widthOf_1 : decode cX9_widthOf 1 = .ok (.getfield 7, 3) := by decide +kernel
theorem dX9_widthOf_4 : decode cX9_widthOf 4 = .ok (.iload_n 1, 1) := by decide +kernel
theorem dX9_widthOf_5 : decode cX9_widthOf 5 = .ok (.iaload, 1) := by decide +kernel
theorem dX9_widthOf_6 : decode cX9_widthOf 6 = .ok (.bipush 24, 2) := by decide +kernel
theorem dX9_widthOf_8 : decode cX9_widthOf 8 = .ok (.iand, 1) := by decide +kernel
theorem dX9_widthOf_9 : decode cX9_widthOf 9 = .ok (.istore_n 2, 1) := by decide +kernel
theorem dX9_widthOf_10 : decode cX9_widthOf 10 = .ok (.iload_n 2, 1) := by decide +kernel
theorem dX9_widthOf_11 : decode cX9_widthOf 11 = .ok (.ifCond .ne 7, 3) := by decide +kernel
theorem dX9_widthOf_14 : decode cX9_widthOf 14 = .ok (.iconst 4, 1) := by decide +kernel
theorem dX9_widthOf_15 : decode cX9_widthOf 15 = .ok (.goto 25, 3) := by decide +kernel
theorem dX9_widthOf_18 : decode cX9_widthOf 18 = .ok (.iload_n 2, 1) := by decide +kernel
theorem dX9_widthOf_19 : decode cX9_widthOf 19 = .ok (.bipush 8, 2) := by decide +kernel
theorem dX9_widthOf_21 : decode cX9_widthOf 21 = .ok (.if_icmp .ne 7, 3) := by decide +kernel
theorem dX9_widthOf_24 : decode cX9_widthOf 24 = .ok (.iconst 2, 1) := by decide +kernel
theorem dX9_widthOf_25 : decode cX9_widthOf 25 = .ok (.goto 15, 3) := by decide +kernel
theorem dX9_widthOf_28 : decode cX9_widthOf 28 = .ok (.iload_n 2, 1) := by decide +kernel
theorem dX9_widthOf_29 : decode cX9_widthOf 29 = .ok (.bipush 16, 2) := by decide +kernel
theorem dX9_widthOf_31 : decode cX9_widthOf 31 = .ok (.if_icmp .ne 7, 3) := by decide +kernel
theorem dX9_widthOf_34 : decode cX9_widthOf 34 = .ok (.iconst 1, 1) := by decide +kernel
theorem dX9_widthOf_35 : decode cX9_widthOf 35 = .ok (.goto 5, 3) := by decide +kernel
theorem dX9_widthOf_38 : decode cX9_widthOf 38 = .ok (.bipush 8, 2) := by decide +kernel
theorem dX9_widthOf_40 : decode cX9_widthOf 40 = .ok (.ireturn, 1) := by decide +kernel
theorem dX9_isSecond_0 : decode cX9_isSecond 0 = .ok (.aload_n 0, 1) := by decide +kernel
theorem dX9_isSecond_1 : decode cX9_isSecond 1 = .ok (.getfield 7, 3) := by decide +kernel
theorem dX9_isSecond_4 : decode cX9_isSecond 4 = .ok (.iload_n 1, 1) := by decide +kernel
theorem dX9_isSecond_5 : decode cX9_isSecond 5 = .ok (.iaload, 1) := by decide +kernel
theorem dX9_isSecond_6 : decode cX9_isSecond 6 = .ok (.ifCond .ne 54, 3) := by decide +kernel
theorem dX9_isSecond_9 : decode cX9_isSecond 9 = .ok (.aload_n 0, 1) := by decide +kernel
theorem dX9_isSecond_10 : decode cX9_isSecond 10 = .ok (.getfield 13, 3) := by decide +kernel
theorem dX9_isSecond_13 : decode cX9_isSecond 13 = .ok (.iload_n 1, 1) := by decide +kernel
theorem dX9_isSecond_14 : decode cX9_isSecond 14 = .ok (.iaload, 1) := by decide +kernel
theorem dX9_isSecond_15 : decode cX9_isSecond 15 = .ok (.ifCond .ne 45, 3) := by decide +kernel
theorem dX9_isSecond_18 : decode cX9_isSecond 18 = .ok (.aload_n 0, 1) := by decide +kernel
theorem dX9_isSecond_19 : decode cX9_isSecond 19 = .ok (.getfield 16, 3) := by decide +kernel
theorem dX9_isSecond_22 : decode cX9_isSecond 22 = .ok (.iload_n 1, 1) := by decide +kernel
theorem dX9_isSecond_23 : decode cX9_isSecond 23 = .ok (.iaload, 1) := by decide +kernel
theorem dX9_isSecond_24 : decode cX9_isSecond 24 = .ok (.ifCond .ne 36, 3) := by decide +kernel
theorem dX9_isSecond_27 : decode cX9_isSecond 27 = .ok (.aload_n 0, 1) := by decide +kernel
theorem dX9_isSecond_28 : decode cX9_isSecond 28 = .ok (.getfield 19, 3) := by decide +kernel
theorem dX9_isSecond_31 : decode cX9_isSecond 31 = .ok (.iload_n 1, 1) := by decide +kernel
theorem dX9_isSecond_32 : decode cX9_isSecond 32 = .ok (.iaload, 1) := by decide +kernel
theorem dX9_isSecond_33 : decode cX9_isSecond 33 = .ok (.ifCond .ne 27, 3) := by decide +kernel
theorem dX9_isSecond_36 : decode cX9_isSecond 36 = .ok (.aload_n 0, 1) := by decide +kernel
theorem dX9_isSecond_37 : decode cX9_isSecond 37 = .ok (.getfield 16, 3) := by decide +kernel
theorem dX9_isSecond_40 : decode cX9_isSecond 40 = .ok (.iload_n 1, 1) := by decide +kernel
theorem dX9_isSecond_41 : decode cX9_isSecond 41 = .ok (.iconst 1, 1) := by decide +kernel
theorem dX9_isSecond_42 : decode cX9_isSecond 42 = .ok (.isub, 1) := by decide +kernel
theorem dX9_isSecond_43 : decode cX9_isSecond 43 = .ok (.iaload, 1) := by decide +kernel
theorem dX9_isSecond_44 : decode cX9_isSecond 44 = .ok (.ifCond .eq 12, 3) := by decide +kernel
theorem dX9_isSecond_47 : decode cX9_isSecond 47 = .ok (.aload_n 0, 1) := by decide +kernel
theorem dX9_isSecond_48 : decode cX9_isSecond 48 = .ok (.getfield 22, 3) := by decide +kernel
theorem dX9_isSecond_51 : decode cX9_isSecond 51 = .ok (.iload_n 1, 1) := by decide +kernel
theorem dX9_isSecond_52 : decode cX9_isSecond 52 = .ok (.iaload, 1) := by decide +kernel
theorem dX9_isSecond_53 : decode cX9_isSecond 53 = .ok (.ifCond .ne 7, 3) := by decide +kernel
theorem dX9_isSecond_56 : decode cX9_isSecond 56 = .ok (.iconst 1, 1) := by decide +kernel
theorem dX9_isSecond_57 : decode cX9_isSecond 57 = .ok (.goto 4, 3) := by decide +kernel
theorem dX9_isSecond_60 : decode cX9_isSecond 60 = .ok (.iconst 0, 1) := by decide +kernel
theorem dX9_isSecond_61 : decode cX9_isSecond 61 = .ok (.ireturn, 1) := by decide +kernel
theorem dX9_over_0 : decode cX9_over 0 = .ok (.lload_n 2, 1) := by decide +kernel
theorem dX9_over_1 : decode cX9_over 1 = .ok (.lconst 0, 1) := by decide +kernel
theorem dX9_over_2 : decode cX9_over 2 = .ok (.lcmp, 1) := by decide +kernel
theorem dX9_over_3 : decode cX9_over 3 = .ok (.ifCond .ge 17, 3) := by decide +kernel
theorem dX9_over_6 : decode cX9_over 6 = .ok (.lload_n 0, 1) := by decide +kernel
theorem dX9_over_7 : decode cX9_over 7 = .ok (.lload_n 2, 1) := by decide +kernel
theorem dX9_over_8 : decode cX9_over 8 = .ok (.invokestatic 175, 3) := by decide +kernel
theorem dX9_over_11 : decode cX9_over 11 = .ok (.ifCond .eq 7, 3) := by decide +kernel
theorem dX9_over_14 : decode cX9_over 14 = .ok (.lconst 0, 1) := by decide +kernel
theorem dX9_over_15 : decode cX9_over 15 = .ok (.goto 4, 3) := by decide +kernel
theorem dX9_over_18 : decode cX9_over 18 = .ok (.lconst 1, 1) := by decide +kernel
theorem dX9_over_19 : decode cX9_over 19 = .ok (.lreturn, 1) := by decide +kernel
theorem dX9_over_20 : decode cX9_over 20 = .ok (.lload_n 0, 1) := by decide +kernel
theorem dX9_over_21 : decode cX9_over 21 = .ok (.iconst 1, 1) := by decide +kernel
theorem dX9_over_22 : decode cX9_over 22 = .ok (.lushr, 1) := by decide +kernel
theorem dX9_over_23 : decode cX9_over 23 = .ok (.lload_n 2, 1) := by decide +kernel
theorem dX9_over_24 : decode cX9_over 24 = .ok (.ldiv, 1) := by decide +kernel
theorem dX9_over_25 : decode cX9_over 25 = .ok (.iconst 1, 1) := by decide +kernel
theorem dX9_over_26 : decode cX9_over 26 = .ok (.lshl, 1) := by decide +kernel
theorem dX9_over_27 : decode cX9_over 27 = .ok (.lstore 4, 2) := by decide +kernel
theorem dX9_over_29 : decode cX9_over 29 = .ok (.lload_n 0, 1) := by decide +kernel
theorem dX9_over_30 : decode cX9_over 30 = .ok (.lload 4, 2) := by decide +kernel
theorem dX9_over_32 : decode cX9_over 32 = .ok (.lload_n 2, 1) := by decide +kernel
theorem dX9_over_33 : decode cX9_over 33 = .ok (.lmul, 1) := by decide +kernel
theorem dX9_over_34 : decode cX9_over 34 = .ok (.lsub, 1) := by decide +kernel
theorem dX9_over_35 : decode cX9_over 35 = .ok (.lload_n 2, 1) := by decide +kernel
theorem dX9_over_36 : decode cX9_over 36 = .ok (.invokestatic 175, 3) := by decide +kernel
theorem dX9_over_39 : decode cX9_over 39 = .ok (.ifCond .eq 8, 3) := by decide +kernel
theorem dX9_over_42 : decode cX9_over 42 = .ok (.lload 4, 2) := by decide +kernel
theorem dX9_over_44 : decode cX9_over 44 = .ok (.goto 7, 3) := by decide +kernel
theorem dX9_over_47 : decode cX9_over 47 = .ok (.lload 4, 2) := by decide +kernel
theorem dX9_over_49 : decode cX9_over 49 = .ok (.lconst 1, 1) := by decide +kernel
theorem dX9_over_50 : decode cX9_over 50 = .ok (.ladd, 1) := by decide +kernel
theorem dX9_over_51 : decode cX9_over 51 = .ok (.lreturn, 1) := by decide +kernel
theorem dX9_signed_0 : decode cX9_signed 0 = .ok (.lload_n 0, 1) := by decide +kernel
theorem dX9_signed_1 : decode cX9_signed 1 = .ok (.bipush 64, 2) := by decide +kernel
theorem dX9_signed_3 : decode cX9_signed 3 = .ok (.iload_n 2, 1) := by decide +kernel
theorem dX9_signed_4 : decode cX9_signed 4 = .ok (.isub, 1) := by decide +kernel
theorem dX9_signed_5 : decode cX9_signed 5 = .ok (.lshl, 1) := by decide +kernel
theorem dX9_signed_6 : decode cX9_signed 6 = .ok (.bipush 64, 2) := by decide +kernel
theorem dX9_signed_8 : decode cX9_signed 8 = .ok (.iload_n 2, 1) := by decide +kernel
theorem dX9_signed_9 : decode cX9_signed 9 = .ok (.isub, 1) := by decide +kernel
theorem dX9_signed_10 : decode cX9_signed 10 = .ok (.lshr, 1) := by decide +kernel
theorem dX9_signed_11 : decode cX9_signed 11 = .ok (.lreturn, 1) := by decide +kernel
theorem dX9_turned_0 : decode cX9_turned 0 = .ok (.lconst 0, 1) := by decide +kernel
theorem dX9_turned_1 : decode cX9_turned 1 = .ok (.lstore_n 3, 1) := by decide +kernel
theorem dX9_turned_2 : decode cX9_turned 2 = .ok (.iconst 0, 1) := by decide +kernel
theorem dX9_turned_3 : decode cX9_turned 3 = .ok (.istore 5, 2) := by decide +kernel
theorem dX9_turned_5 : decode cX9_turned 5 = .ok (.iload 5, 2) := by decide +kernel
theorem dX9_turned_7 : decode cX9_turned 7 = .ok (.iload_n 2, 1) := by decide +kernel
theorem dX9_turned_8 : decode cX9_turned 8 = .ok (.if_icmp .ge 23, 3) := by decide +kernel
theorem dX9_turned_11 : decode cX9_turned 11 = .ok (.lload_n 3, 1) := by decide +kernel
theorem dX9_turned_12 : decode cX9_turned 12 = .ok (.bipush 8, 2) := by decide +kernel
theorem dX9_turned_14 : decode cX9_turned 14 = .ok (.lshl, 1) := by decide +kernel
theorem dX9_turned_15 : decode cX9_turned 15 = .ok (.lload_n 0, 1) := by decide +kernel
theorem dX9_turned_16 : decode cX9_turned 16 = .ok (.iload 5, 2) := by decide +kernel
theorem dX9_turned_18 : decode cX9_turned 18 = .ok (.lshr, 1) := by decide +kernel
theorem dX9_turned_19 : decode cX9_turned 19 = .ok (.ldc2_w 130, 3) := by decide +kernel
theorem dX9_turned_22 : decode cX9_turned 22 = .ok (.land, 1) := by decide +kernel
theorem dX9_turned_23 : decode cX9_turned 23 = .ok (.lor, 1) := by decide +kernel
theorem dX9_turned_24 : decode cX9_turned 24 = .ok (.lstore_n 3, 1) := by decide +kernel
theorem dX9_turned_25 : decode cX9_turned 25 = .ok (.iinc 5 8, 3) := by decide +kernel
theorem dX9_turned_28 : decode cX9_turned 28 = .ok (.goto (-23), 3) := by decide +kernel
theorem dX9_turned_31 : decode cX9_turned 31 = .ok (.lload_n 3, 1) := by decide +kernel
theorem dX9_turned_32 : decode cX9_turned 32 = .ok (.lreturn, 1) := by decide +kernel
theorem dX9_divided_0 : decode cX9_divided 0 = .ok (.lload_n 2, 1) := by decide +kernel
theorem dX9_divided_1 : decode cX9_divided 1 = .ok (.lconst 0, 1) := by decide +kernel
theorem dX9_divided_2 : decode cX9_divided 2 = .ok (.lcmp, 1) := by decide +kernel
theorem dX9_divided_3 : decode cX9_divided 3 = .ok (.ifCond .ne 14, 3) := by decide +kernel
theorem dX9_divided_6 : decode cX9_divided 6 = .ok (.iload 6, 2) := by decide +kernel
theorem dX9_divided_8 : decode cX9_divided 8 = .ok (.ifCond .eq 7, 3) := by decide +kernel
theorem dX9_divided_11 : decode cX9_divided 11 = .ok (.lload_n 0, 1) := by decide +kernel
theorem dX9_divided_12 : decode cX9_divided 12 = .ok (.goto 4, 3) := by decide +kernel
theorem dX9_divided_15 : decode cX9_divided 15 = .ok (.lconst 0, 1) := by decide +kernel
theorem dX9_divided_16 : decode cX9_divided 16 = .ok (.lreturn, 1) := by decide +kernel
theorem dX9_divided_17 : decode cX9_divided 17 = .ok (.iload 5, 2) := by decide +kernel
theorem dX9_divided_19 : decode cX9_divided 19 = .ok (.ifCond .ne 26, 3) := by decide +kernel
theorem dX9_divided_22 : decode cX9_divided 22 = .ok (.iload 6, 2) := by decide +kernel
theorem dX9_divided_24 : decode cX9_divided 24 = .ok (.ifCond .eq 15, 3) := by decide +kernel
theorem dX9_divided_27 : decode cX9_divided 27 = .ok (.lload_n 0, 1) := by decide +kernel
theorem dX9_divided_28 : decode cX9_divided 28 = .ok (.lload_n 0, 1) := by decide +kernel
theorem dX9_divided_29 : decode cX9_divided 29 = .ok (.lload_n 2, 1) := by decide +kernel
theorem dX9_divided_30 : decode cX9_divided 30 = .ok (.invokestatic 179, 3) := by decide +kernel
theorem dX9_divided_33 : decode cX9_divided 33 = .ok (.lload_n 2, 1) := by decide +kernel
theorem dX9_divided_34 : decode cX9_divided 34 = .ok (.lmul, 1) := by decide +kernel
theorem dX9_divided_35 : decode cX9_divided 35 = .ok (.lsub, 1) := by decide +kernel
theorem dX9_divided_36 : decode cX9_divided 36 = .ok (.goto 8, 3) := by decide +kernel
theorem dX9_divided_39 : decode cX9_divided 39 = .ok (.lload_n 0, 1) := by decide +kernel
theorem dX9_divided_40 : decode cX9_divided 40 = .ok (.lload_n 2, 1) := by decide +kernel
theorem dX9_divided_41 : decode cX9_divided 41 = .ok (.invokestatic 179, 3) := by decide +kernel
theorem dX9_divided_44 : decode cX9_divided 44 = .ok (.lreturn, 1) := by decide +kernel
theorem dX9_divided_45 : decode cX9_divided 45 = .ok (.iload 4, 2) := by decide +kernel
theorem dX9_divided_47 : decode cX9_divided 47 = .ok (.ifCond .eq 7, 3) := by decide +kernel
theorem dX9_divided_50 : decode cX9_divided 50 = .ok (.lload_n 0, 1) := by decide +kernel
theorem dX9_divided_51 : decode cX9_divided 51 = .ok (.goto 9, 3) := by decide +kernel
theorem dX9_divided_54 : decode cX9_divided 54 = .ok (.lload_n 0, 1) := by decide +kernel
theorem dX9_divided_55 : decode cX9_divided 55 = .ok (.bipush 32, 2) := by decide +kernel
theorem dX9_divided_57 : decode cX9_divided 57 = .ok (.invokestatic 183, 3) := by decide +kernel
theorem dX9_divided_60 : decode cX9_divided 60 = .ok (.lstore 7, 2) := by decide +kernel
theorem dX9_divided_62 : decode cX9_divided 62 = .ok (.iload 4, 2) := by decide +kernel
theorem dX9_divided_64 : decode cX9_divided 64 = .ok (.ifCond .eq 7, 3) := by decide +kernel
theorem dX9_divided_67 : decode cX9_divided 67 = .ok (.lload_n 2, 1) := by decide +kernel
theorem dX9_divided_68 : decode cX9_divided 68 = .ok (.goto 9, 3) := by decide +kernel
theorem dX9_divided_71 : decode cX9_divided 71 = .ok (.lload_n 2, 1) := by decide +kernel
theorem dX9_divided_72 : decode cX9_divided 72 = .ok (.bipush 32, 2) := by decide +kernel
theorem dX9_divided_74 : decode cX9_divided 74 = .ok (.invokestatic 183, 3) := by decide +kernel
theorem dX9_divided_77 : decode cX9_divided 77 = .ok (.lstore 9, 2) := by decide +kernel
theorem dX9_divided_79 : decode cX9_divided 79 = .ok (.lload 9, 2) := by decide +kernel
theorem dX9_divided_81 : decode cX9_divided 81 = .ok (.ldc2_w 187, 3) := by decide +kernel
theorem dX9_divided_84 : decode cX9_divided 84 = .ok (.lcmp, 1) := by decide +kernel
theorem dX9_divided_85 : decode cX9_divided 85 = .ok (.ifCond .ne 16, 3) := by decide +kernel
theorem dX9_divided_88 : decode cX9_divided 88 = .ok (.iload 6, 2) := by decide +kernel
theorem dX9_divided_90 : decode cX9_divided 90 = .ok (.ifCond .eq 7, 3) := by decide +kernel
theorem dX9_divided_93 : decode cX9_divided 93 = .ok (.lconst 0, 1) := by decide +kernel
theorem dX9_divided_94 : decode cX9_divided 94 = .ok (.goto 6, 3) := by decide +kernel
theorem dX9_divided_97 : decode cX9_divided 97 = .ok (.lload 7, 2) := by decide +kernel
theorem dX9_divided_99 : decode cX9_divided 99 = .ok (.lneg, 1) := by decide +kernel
theorem dX9_divided_100 : decode cX9_divided 100 = .ok (.lreturn, 1) := by decide +kernel
theorem dX9_divided_101 : decode cX9_divided 101 = .ok (.iload 6, 2) := by decide +kernel
theorem dX9_divided_103 : decode cX9_divided 103 = .ok (.ifCond .eq 11, 3) := by decide +kernel
theorem dX9_divided_106 : decode cX9_divided 106 = .ok (.lload 7, 2) := by decide +kernel
theorem dX9_divided_108 : decode cX9_divided 108 = .ok (.lload 9, 2) := by decide +kernel
theorem dX9_divided_110 : decode cX9_divided 110 = .ok (.lrem, 1) := by decide +kernel
theorem dX9_divided_111 : decode cX9_divided 111 = .ok (.goto 8, 3) := by decide +kernel
theorem dX9_divided_114 : decode cX9_divided 114 = .ok (.lload 7, 2) := by decide +kernel
theorem dX9_divided_116 : decode cX9_divided 116 = .ok (.lload 9, 2) := by decide +kernel
theorem dX9_divided_118 : decode cX9_divided 118 = .ok (.ldiv, 1) := by decide +kernel
theorem dX9_divided_119 : decode cX9_divided 119 = .ok (.lreturn, 1) := by decide +kernel
theorem dX9_made_0 : decode cX9_made 0 = .ok (.lload 6, 2) := by decide +kernel
theorem dX9_made_2 : decode cX9_made 2 = .ok (.l2i, 1) := by decide +kernel
theorem dX9_made_3 : decode cX9_made 3 = .ok (.iload_n 3, 1) := by decide +kernel
theorem dX9_made_4 : decode cX9_made 4 = .ok (.ifCond .eq 8, 3) := by decide +kernel
theorem dX9_made_7 : decode cX9_made 7 = .ok (.bipush 63, 2) := by decide +kernel
theorem dX9_made_9 : decode cX9_made 9 = .ok (.goto 5, 3) := by decide +kernel
theorem dX9_made_12 : decode cX9_made 12 = .ok (.bipush 31, 2) := by decide +kernel
theorem dX9_made_14 : decode cX9_made 14 = .ok (.iand, 1) := by decide +kernel
theorem dX9_made_15 : decode cX9_made 15 = .ok (.istore 8, 2) := by decide +kernel
theorem dX9_made_17 : decode cX9_made 17 = .ok (.iload_n 2, 1) := by decide +kernel
theorem dX9_made_18 : decode cX9_made 18 = .ok (.tableswitch 188 0 12 #[66, 72, 78, 84, 134, 140, 152, 158, 184, 109, 146, 188, 164], 66) := by decide +kernel
theorem dX9_made_84 : decode cX9_made 84 = .ok (.lload 4, 2) := by decide +kernel
theorem dX9_made_86 : decode cX9_made 86 = .ok (.lload 6, 2) := by decide +kernel
theorem dX9_made_88 : decode cX9_made 88 = .ok (.ladd, 1) := by decide +kernel
theorem dX9_made_89 : decode cX9_made 89 = .ok (.lreturn, 1) := by decide +kernel
theorem dX9_made_90 : decode cX9_made 90 = .ok (.lload 4, 2) := by decide +kernel
theorem dX9_made_92 : decode cX9_made 92 = .ok (.lload 6, 2) := by decide +kernel
theorem dX9_made_94 : decode cX9_made 94 = .ok (.lsub, 1) := by decide +kernel
theorem dX9_made_95 : decode cX9_made 95 = .ok (.lreturn, 1) := by decide +kernel
theorem dX9_made_96 : decode cX9_made 96 = .ok (.lload 4, 2) := by decide +kernel
theorem dX9_made_98 : decode cX9_made 98 = .ok (.lload 6, 2) := by decide +kernel
theorem dX9_made_100 : decode cX9_made 100 = .ok (.lmul, 1) := by decide +kernel
theorem dX9_made_101 : decode cX9_made 101 = .ok (.lreturn, 1) := by decide +kernel
theorem dX9_made_102 : decode cX9_made 102 = .ok (.lload 4, 2) := by decide +kernel
theorem dX9_made_104 : decode cX9_made 104 = .ok (.lload 6, 2) := by decide +kernel
theorem dX9_made_106 : decode cX9_made 106 = .ok (.iload_n 3, 1) := by decide +kernel
theorem dX9_made_107 : decode cX9_made 107 = .ok (.aload_n 0, 1) := by decide +kernel
theorem dX9_made_108 : decode cX9_made 108 = .ok (.getfield 19, 3) := by decide +kernel
theorem dX9_made_111 : decode cX9_made 111 = .ok (.iload_n 1, 1) := by decide +kernel
theorem dX9_made_112 : decode cX9_made 112 = .ok (.iaload, 1) := by decide +kernel
theorem dX9_made_113 : decode cX9_made 113 = .ok (.iconst 1, 1) := by decide +kernel
theorem dX9_made_114 : decode cX9_made 114 = .ok (.if_icmp .ne 7, 3) := by decide +kernel
theorem dX9_made_117 : decode cX9_made 117 = .ok (.iconst 1, 1) := by decide +kernel
theorem dX9_made_118 : decode cX9_made 118 = .ok (.goto 4, 3) := by decide +kernel
theorem dX9_made_121 : decode cX9_made 121 = .ok (.iconst 0, 1) := by decide +kernel
theorem dX9_made_122 : decode cX9_made 122 = .ok (.iconst 0, 1) := by decide +kernel
theorem dX9_made_123 : decode cX9_made 123 = .ok (.invokestatic 198, 3) := by decide +kernel
theorem dX9_made_126 : decode cX9_made 126 = .ok (.lreturn, 1) := by decide +kernel
theorem dX9_made_127 : decode cX9_made 127 = .ok (.lload 4, 2) := by decide +kernel
theorem dX9_made_129 : decode cX9_made 129 = .ok (.lload 6, 2) := by decide +kernel
theorem dX9_made_131 : decode cX9_made 131 = .ok (.iload_n 3, 1) := by decide +kernel
theorem dX9_made_132 : decode cX9_made 132 = .ok (.aload_n 0, 1) := by decide +kernel
theorem dX9_made_133 : decode cX9_made 133 = .ok (.getfield 19, 3) := by decide +kernel
theorem dX9_made_136 : decode cX9_made 136 = .ok (.iload_n 1, 1) := by decide +kernel
theorem dX9_made_137 : decode cX9_made 137 = .ok (.iaload, 1) := by decide +kernel
theorem dX9_made_138 : decode cX9_made 138 = .ok (.iconst 1, 1) := by decide +kernel
theorem dX9_made_139 : decode cX9_made 139 = .ok (.if_icmp .ne 7, 3) := by decide +kernel
theorem dX9_made_142 : decode cX9_made 142 = .ok (.iconst 1, 1) := by decide +kernel
theorem dX9_made_143 : decode cX9_made 143 = .ok (.goto 4, 3) := by decide +kernel
theorem dX9_made_146 : decode cX9_made 146 = .ok (.iconst 0, 1) := by decide +kernel
theorem dX9_made_147 : decode cX9_made 147 = .ok (.iconst 1, 1) := by decide +kernel
theorem dX9_made_148 : decode cX9_made 148 = .ok (.invokestatic 198, 3) := by decide +kernel
theorem dX9_made_151 : decode cX9_made 151 = .ok (.lreturn, 1) := by decide +kernel
theorem dX9_made_152 : decode cX9_made 152 = .ok (.lload 4, 2) := by decide +kernel
theorem dX9_made_154 : decode cX9_made 154 = .ok (.lload 6, 2) := by decide +kernel
theorem dX9_made_156 : decode cX9_made 156 = .ok (.lor, 1) := by decide +kernel
theorem dX9_made_157 : decode cX9_made 157 = .ok (.lreturn, 1) := by decide +kernel
theorem dX9_made_158 : decode cX9_made 158 = .ok (.lload 4, 2) := by decide +kernel
theorem dX9_made_160 : decode cX9_made 160 = .ok (.lload 6, 2) := by decide +kernel
theorem dX9_made_162 : decode cX9_made 162 = .ok (.land, 1) := by decide +kernel
theorem dX9_made_163 : decode cX9_made 163 = .ok (.lreturn, 1) := by decide +kernel
theorem dX9_made_164 : decode cX9_made 164 = .ok (.lload 4, 2) := by decide +kernel
theorem dX9_made_166 : decode cX9_made 166 = .ok (.lload 6, 2) := by decide +kernel
theorem dX9_made_168 : decode cX9_made 168 = .ok (.lxor, 1) := by decide +kernel
theorem dX9_made_169 : decode cX9_made 169 = .ok (.lreturn, 1) := by decide +kernel
theorem dX9_made_170 : decode cX9_made 170 = .ok (.lload 4, 2) := by decide +kernel
theorem dX9_made_172 : decode cX9_made 172 = .ok (.iload 8, 2) := by decide +kernel
theorem dX9_made_174 : decode cX9_made 174 = .ok (.lshl, 1) := by decide +kernel
theorem dX9_made_175 : decode cX9_made 175 = .ok (.lreturn, 1) := by decide +kernel
theorem dX9_made_176 : decode cX9_made 176 = .ok (.lload 4, 2) := by decide +kernel
theorem dX9_made_178 : decode cX9_made 178 = .ok (.iload 8, 2) := by decide +kernel
theorem dX9_made_180 : decode cX9_made 180 = .ok (.lushr, 1) := by decide +kernel
theorem dX9_made_181 : decode cX9_made 181 = .ok (.lreturn, 1) := by decide +kernel
theorem dX9_made_182 : decode cX9_made 182 = .ok (.iload_n 3, 1) := by decide +kernel
theorem dX9_made_183 : decode cX9_made 183 = .ok (.ifCond .eq 8, 3) := by decide +kernel
theorem dX9_made_186 : decode cX9_made 186 = .ok (.lload 4, 2) := by decide +kernel
theorem dX9_made_188 : decode cX9_made 188 = .ok (.goto 10, 3) := by decide +kernel
theorem dX9_made_191 : decode cX9_made 191 = .ok (.lload 4, 2) := by decide +kernel
theorem dX9_made_193 : decode cX9_made 193 = .ok (.bipush 32, 2) := by decide +kernel
theorem dX9_made_195 : decode cX9_made 195 = .ok (.invokestatic 183, 3) := by decide +kernel
theorem dX9_made_198 : decode cX9_made 198 = .ok (.iload 8, 2) := by decide +kernel
theorem dX9_made_200 : decode cX9_made 200 = .ok (.lshr, 1) := by decide +kernel
theorem dX9_made_201 : decode cX9_made 201 = .ok (.lreturn, 1) := by decide +kernel
theorem dX9_made_202 : decode cX9_made 202 = .ok (.lload 4, 2) := by decide +kernel
theorem dX9_made_204 : decode cX9_made 204 = .ok (.lneg, 1) := by decide +kernel
theorem dX9_made_205 : decode cX9_made 205 = .ok (.lreturn, 1) := by decide +kernel
theorem dX9_made_206 : decode cX9_made 206 = .ok (.aload_n 0, 1) := by decide +kernel
theorem dX9_made_207 : decode cX9_made 207 = .ok (.getfield 19, 3) := by decide +kernel
theorem dX9_made_210 : decode cX9_made 210 = .ok (.iload_n 1, 1) := by decide +kernel
theorem dX9_made_211 : decode cX9_made 211 = .ok (.iaload, 1) := by decide +kernel
theorem dX9_made_212 : decode cX9_made 212 = .ok (.ifCond .ne 8, 3) := by decide +kernel
theorem dX9_made_215 : decode cX9_made 215 = .ok (.lload 6, 2) := by decide +kernel
theorem dX9_made_217 : decode cX9_made 217 = .ok (.goto 14, 3) := by decide +kernel
theorem dX9_made_220 : decode cX9_made 220 = .ok (.lload 6, 2) := by decide +kernel
theorem dX9_made_222 : decode cX9_made 222 = .ok (.aload_n 0, 1) := by decide +kernel
theorem dX9_made_223 : decode cX9_made 223 = .ok (.getfield 19, 3) := by decide +kernel
theorem dX9_made_226 : decode cX9_made 226 = .ok (.iload_n 1, 1) := by decide +kernel
theorem dX9_made_227 : decode cX9_made 227 = .ok (.iaload, 1) := by decide +kernel
theorem dX9_made_228 : decode cX9_made 228 = .ok (.invokestatic 183, 3) := by decide +kernel
theorem dX9_made_231 : decode cX9_made 231 = .ok (.lreturn, 1) := by decide +kernel
theorem dX9_reckon_0 : decode cX9_reckon 0 = .ok (.aload_n 0, 1) := by decide +kernel
theorem dX9_reckon_1 : decode cX9_reckon 1 = .ok (.getfield 7, 3) := by decide +kernel
theorem dX9_reckon_4 : decode cX9_reckon 4 = .ok (.iload_n 1, 1) := by decide +kernel
theorem dX9_reckon_5 : decode cX9_reckon 5 = .ok (.iaload, 1) := by decide +kernel
theorem dX9_reckon_6 : decode cX9_reckon 6 = .ok (.bipush 7, 2) := by decide +kernel
theorem dX9_reckon_8 : decode cX9_reckon 8 = .ok (.iand, 1) := by decide +kernel
theorem dX9_reckon_9 : decode cX9_reckon 9 = .ok (.bipush 7, 2) := by decide +kernel
theorem dX9_reckon_11 : decode cX9_reckon 11 = .ok (.if_icmp .ne 7, 3) := by decide +kernel
theorem dX9_reckon_14 : decode cX9_reckon 14 = .ok (.iconst 1, 1) := by decide +kernel
theorem dX9_reckon_15 : decode cX9_reckon 15 = .ok (.goto 4, 3) := by decide +kernel
theorem dX9_reckon_18 : decode cX9_reckon 18 = .ok (.iconst 0, 1) := by decide +kernel
theorem dX9_reckon_19 : decode cX9_reckon 19 = .ok (.istore 6, 2) := by decide +kernel
theorem dX9_reckon_21 : decode cX9_reckon 21 = .ok (.aload_n 0, 1) := by decide +kernel
theorem dX9_reckon_22 : decode cX9_reckon 22 = .ok (.getfield 7, 3) := by decide +kernel
theorem dX9_reckon_25 : decode cX9_reckon 25 = .ok (.iload_n 1, 1) := by decide +kernel
theorem dX9_reckon_26 : decode cX9_reckon 26 = .ok (.iaload, 1) := by decide +kernel
theorem dX9_reckon_27 : decode cX9_reckon 27 = .ok (.iconst 4, 1) := by decide +kernel
theorem dX9_reckon_28 : decode cX9_reckon 28 = .ok (.ishr, 1) := by decide +kernel
theorem dX9_reckon_29 : decode cX9_reckon 29 = .ok (.istore 7, 2) := by decide +kernel
theorem dX9_reckon_31 : decode cX9_reckon 31 = .ok (.iload 7, 2) := by decide +kernel
theorem dX9_reckon_33 : decode cX9_reckon 33 = .ok (.bipush 13, 2) := by decide +kernel
theorem dX9_reckon_35 : decode cX9_reckon 35 = .ok (.if_icmp .ne 66, 3) := by decide +kernel
theorem dX9_reckon_38 : decode cX9_reckon 38 = .ok (.aload_n 0, 1) := by decide +kernel
theorem dX9_reckon_39 : decode cX9_reckon 39 = .ok (.getfield 22, 3) := by decide +kernel
theorem dX9_reckon_42 : decode cX9_reckon 42 = .ok (.iload_n 1, 1) := by decide +kernel
theorem dX9_reckon_43 : decode cX9_reckon 43 = .ok (.iaload, 1) := by decide +kernel
theorem dX9_reckon_44 : decode cX9_reckon 44 = .ok (.bipush 64, 2) := by decide +kernel
theorem dX9_reckon_46 : decode cX9_reckon 46 = .ok (.if_icmp .ne 7, 3) := by decide +kernel
theorem dX9_reckon_49 : decode cX9_reckon 49 = .ok (.lload_n 2, 1) := by decide +kernel
theorem dX9_reckon_50 : decode cX9_reckon 50 = .ok (.goto 15, 3) := by decide +kernel
theorem dX9_reckon_53 : decode cX9_reckon 53 = .ok (.lload_n 2, 1) := by decide +kernel
theorem dX9_reckon_54 : decode cX9_reckon 54 = .ok (.lconst 1, 1) := by decide +kernel
theorem dX9_reckon_55 : decode cX9_reckon 55 = .ok (.aload_n 0, 1) := by decide +kernel
theorem dX9_reckon_56 : decode cX9_reckon 56 = .ok (.getfield 22, 3) := by decide +kernel
theorem dX9_reckon_59 : decode cX9_reckon 59 = .ok (.iload_n 1, 1) := by decide +kernel
theorem dX9_reckon_60 : decode cX9_reckon 60 = .ok (.iaload, 1) := by decide +kernel
theorem dX9_reckon_61 : decode cX9_reckon 61 = .ok (.lshl, 1) := by decide +kernel
theorem dX9_reckon_62 : decode cX9_reckon 62 = .ok (.lconst 1, 1) := by decide +kernel
theorem dX9_reckon_63 : decode cX9_reckon 63 = .ok (.lsub, 1) := by decide +kernel
theorem dX9_reckon_64 : decode cX9_reckon 64 = .ok (.land, 1) := by decide +kernel
theorem dX9_reckon_65 : decode cX9_reckon 65 = .ok (.lstore 8, 2) := by decide +kernel
theorem dX9_reckon_67 : decode cX9_reckon 67 = .ok (.iload 6, 2) := by decide +kernel
theorem dX9_reckon_69 : decode cX9_reckon 69 = .ok (.ifCond .ne 20, 3) := by decide +kernel
theorem dX9_reckon_72 : decode cX9_reckon 72 = .ok (.aload_n 0, 1) := by decide +kernel
theorem dX9_reckon_73 : decode cX9_reckon 73 = .ok (.getfield 7, 3) := by decide +kernel
theorem dX9_reckon_76 : decode cX9_reckon 76 = .ok (.iload_n 1, 1) := by decide +kernel
theorem dX9_reckon_77 : decode cX9_reckon 77 = .ok (.iaload, 1) := by decide +kernel
theorem dX9_reckon_78 : decode cX9_reckon 78 = .ok (.bipush 8, 2) := by decide +kernel
theorem dX9_reckon_80 : decode cX9_reckon 80 = .ok (.iand, 1) := by decide +kernel
theorem dX9_reckon_81 : decode cX9_reckon 81 = .ok (.ifCond .ne 8, 3) := by decide +kernel
theorem dX9_reckon_84 : decode cX9_reckon 84 = .ok (.lload 8, 2) := by decide +kernel
theorem dX9_reckon_86 : decode cX9_reckon 86 = .ok (.goto 14, 3) := by decide +kernel
theorem dX9_reckon_89 : decode cX9_reckon 89 = .ok (.lload 8, 2) := by decide +kernel
theorem dX9_reckon_91 : decode cX9_reckon 91 = .ok (.aload_n 0, 1) := by decide +kernel
theorem dX9_reckon_92 : decode cX9_reckon 92 = .ok (.getfield 22, 3) := by decide +kernel
theorem dX9_reckon_95 : decode cX9_reckon 95 = .ok (.iload_n 1, 1) := by decide +kernel
theorem dX9_reckon_96 : decode cX9_reckon 96 = .ok (.iaload, 1) := by decide +kernel
theorem dX9_reckon_97 : decode cX9_reckon 97 = .ok (.invokestatic 189, 3) := by decide +kernel
theorem dX9_reckon_100 : decode cX9_reckon 100 = .ok (.lreturn, 1) := by decide +kernel
theorem dX9_reckon_101 : decode cX9_reckon 101 = .ok (.iload 6, 2) := by decide +kernel
theorem dX9_reckon_103 : decode cX9_reckon 103 = .ok (.ifCond .eq 7, 3) := by decide +kernel
theorem dX9_reckon_106 : decode cX9_reckon 106 = .ok (.lload_n 2, 1) := by decide +kernel
theorem dX9_reckon_107 : decode cX9_reckon 107 = .ok (.goto 8, 3) := by decide +kernel
theorem dX9_reckon_110 : decode cX9_reckon 110 = .ok (.lload_n 2, 1) := by decide +kernel
theorem dX9_reckon_111 : decode cX9_reckon 111 = .ok (.ldc2_w 192, 3) := by decide +kernel
theorem dX9_reckon_114 : decode cX9_reckon 114 = .ok (.land, 1) := by decide +kernel
theorem dX9_reckon_115 : decode cX9_reckon 115 = .ok (.lstore 8, 2) := by decide +kernel
theorem dX9_reckon_117 : decode cX9_reckon 117 = .ok (.iload 6, 2) := by decide +kernel
theorem dX9_reckon_119 : decode cX9_reckon 119 = .ok (.ifCond .eq 8, 3) := by decide +kernel
theorem dX9_reckon_122 : decode cX9_reckon 122 = .ok (.lload 4, 2) := by decide +kernel
theorem dX9_reckon_124 : decode cX9_reckon 124 = .ok (.goto 9, 3) := by decide +kernel
theorem dX9_reckon_127 : decode cX9_reckon 127 = .ok (.lload 4, 2) := by decide +kernel
theorem dX9_reckon_129 : decode cX9_reckon 129 = .ok (.ldc2_w 192, 3) := by decide +kernel
theorem dX9_reckon_132 : decode cX9_reckon 132 = .ok (.land, 1) := by decide +kernel
theorem dX9_reckon_133 : decode cX9_reckon 133 = .ok (.lstore 10, 2) := by decide +kernel
theorem dX9_reckon_135 : decode cX9_reckon 135 = .ok (.aload_n 0, 1) := by decide +kernel
theorem dX9_reckon_136 : decode cX9_reckon 136 = .ok (.iload_n 1, 1) := by decide +kernel
theorem dX9_reckon_137 : decode cX9_reckon 137 = .ok (.iload 7, 2) := by decide +kernel
theorem dX9_reckon_139 : decode cX9_reckon 139 = .ok (.iload 6, 2) := by decide +kernel
theorem dX9_reckon_141 : decode cX9_reckon 141 = .ok (.lload 8, 2) := by decide +kernel
theorem dX9_reckon_143 : decode cX9_reckon 143 = .ok (.lload 10, 2) := by decide +kernel
theorem dX9_reckon_145 : decode cX9_reckon 145 = .ok (.invokevirtual 194, 3) := by decide +kernel
theorem dX9_reckon_148 : decode cX9_reckon 148 = .ok (.lstore 12, 2) := by decide +kernel
theorem dX9_reckon_150 : decode cX9_reckon 150 = .ok (.iload 6, 2) := by decide +kernel
theorem dX9_reckon_152 : decode cX9_reckon 152 = .ok (.ifCond .eq 8, 3) := by decide +kernel
theorem dX9_reckon_155 : decode cX9_reckon 155 = .ok (.lload 12, 2) := by decide +kernel
theorem dX9_reckon_157 : decode cX9_reckon 157 = .ok (.goto 9, 3) := by decide +kernel
theorem dX9_reckon_160 : decode cX9_reckon 160 = .ok (.lload 12, 2) := by decide +kernel
theorem dX9_reckon_162 : decode cX9_reckon 162 = .ok (.ldc2_w 192, 3) := by decide +kernel
theorem dX9_reckon_165 : decode cX9_reckon 165 = .ok (.land, 1) := by decide +kernel
theorem dX9_reckon_166 : decode cX9_reckon 166 = .ok (.lreturn, 1) := by decide +kernel
theorem dX9_second_0 : decode cX9_second 0 = .ok (.aload_n 0, 1) := by decide +kernel
theorem dX9_second_1 : decode cX9_second 1 = .ok (.getfield 7, 3) := by decide +kernel
theorem dX9_second_4 : decode cX9_second 4 = .ok (.iload_n 1, 1) := by decide +kernel
theorem dX9_second_5 : decode cX9_second 5 = .ok (.iaload, 1) := by decide +kernel
theorem dX9_second_6 : decode cX9_second 6 = .ok (.bipush 8, 2) := by decide +kernel
theorem dX9_second_8 : decode cX9_second 8 = .ok (.iand, 1) := by decide +kernel
theorem dX9_second_9 : decode cX9_second 9 = .ok (.ifCond .eq 17, 3) := by decide +kernel
theorem dX9_second_12 : decode cX9_second 12 = .ok (.aload_n 0, 1) := by decide +kernel
theorem dX9_second_13 : decode cX9_second 13 = .ok (.getfield 53, 3) := by decide +kernel
theorem dX9_second_16 : decode cX9_second 16 = .ok (.aload_n 0, 1) := by decide +kernel
theorem dX9_second_17 : decode cX9_second 17 = .ok (.getfield 16, 3) := by decide +kernel
theorem dX9_second_20 : decode cX9_second 20 = .ok (.iload_n 1, 1) := by decide +kernel
theorem dX9_second_21 : decode cX9_second 21 = .ok (.iaload, 1) := by decide +kernel
theorem dX9_second_22 : decode cX9_second 22 = .ok (.laload, 1) := by decide +kernel
theorem dX9_second_23 : decode cX9_second 23 = .ok (.goto 10, 3) := by decide +kernel
theorem dX9_second_26 : decode cX9_second 26 = .ok (.aload_n 0, 1) := by decide +kernel
theorem dX9_second_27 : decode cX9_second 27 = .ok (.getfield 22, 3) := by decide +kernel
theorem dX9_second_30 : decode cX9_second 30 = .ok (.iload_n 1, 1) := by decide +kernel
theorem dX9_second_31 : decode cX9_second 31 = .ok (.iaload, 1) := by decide +kernel
theorem dX9_second_32 : decode cX9_second 32 = .ok (.i2l, 1) := by decide +kernel
theorem dX9_second_33 : decode cX9_second 33 = .ok (.lreturn, 1) := by decide +kernel
-- JudgedCodeModel.putKind
def f_X9_putKind_151 (S : sh) (o0 : Nat) (x1 : Int32) (D : dt) : Option (Int32 × dt) := rq (gR D o0 3) fun o59 => ix x1 (sA S o59) <| if (10 : Int32) ≤ (gI D o59 x1.toNatClampNeg) then (some ((0 : Int32), D)) else (some ((10 : Int32), D))
def f_X9_putKind_80 (S : sh) (o0 : Nat) (x1 : Int32) (D : dt) : Option (Int32 × dt) := rq (gR D o0 5) fun o65 => ix x1 (sA S o65) <| nm (gI D o65 x1.toNatClampNeg) fun y70 => if y70 = (241 : Int32) then (some ((10 : Int32), D)) else (if y70 = 0 then (some ((10 : Int32), D)) else (if y70 = (64 : Int32) then (some ((10 : Int32), D)) else (if y70 = (80 : Int32) then (some ((10 : Int32), D)) else (if y70 = (160 : Int32) then (some ((10 : Int32), D)) else (if y70 = (1 : Int32) then (f_X9_putKind_151 S o0 x1 D) else (if y70 = (65 : Int32) then (f_X9_putKind_151 S o0 x1 D) else (if y70 = (81 : Int32) then (f_X9_putKind_151 S o0 x1 D) else (if y70 = (161 : Int32) then (f_X9_putKind_151 S o0 x1 D) else (if y70 = (225 : Int32) then (f_X9_putKind_151 S o0 x1 D) else (some ((0 : Int32), D)))))))))))
def f_X9_putKind (S : sh) (o0 : Nat) (x1 : Int32) (D : dt) : Option (Int32 × dt) := rq (gR D o0 2) fun o81 => ix x1 (sA S o81) <| if (11 : Int32) ≤ (gI D o81 x1.toNatClampNeg) then (some ((0 : Int32), D)) else (rq (gR D o0 3) fun o87 => ix x1 (sA S o87) <| if (gI D o87 x1.toNatClampNeg) < (11 : Int32) then (rq (gR D o0 1) fun o93 => ix x1 (sA S o93) <| if ((gI D o93 x1.toNatClampNeg) &&& (-25 : Int32)) = (99 : Int32) then (rq (gR D o0 5) fun o111 => ix x1 (sA S o111) <| if (gI D o111 x1.toNatClampNeg) = 0 then (some ((9 : Int32), D)) else (some ((0 : Int32), D))) else (rq (gR D o0 1) fun o99 => ix x1 (sA S o99) <| if (gI D o99 x1.toNatClampNeg) = (195 : Int32) then (f_X9_putKind_80 S o0 x1 D) else (rq (gR D o0 1) fun o105 => ix x1 (sA S o105) <| if (gI D o105 x1.toNatClampNeg) = (219 : Int32) then (f_X9_putKind_80 S o0 x1 D) else (some ((0 : Int32), D))))) else (some ((0 : Int32), D)))
-- JudgedCodeModel.kindOf
def f_X9_kindOf_65 (S : sh) (os0 : Nat) (xs1 : Int32) (xs2 : Int32) (D : dt) : Option (Int32 × dt) := cq (f_X9_isRegister S os0 xs1 xs2 D) fun r72 D73 => if r72 = 0 then (some ((0 : Int32), D73)) else (some ((1 : Int32), D73))
def f_X9_kindOf_52 (S : sh) (o0 : Nat) (x1 : Int32) (x2 : Int32) (D : dt) : Option (Int32 × dt) := if x2 = (7 : Int32) then (f_X9_kindOf_65 S o0 x1 (1 : Int32) D) else (f_X9_kindOf_65 S o0 x1 (0 : Int32) D)
def f_X9_kindOf_89 (S : sh) (os0 : Nat) (xs1 : Int32) (xs2 : Int32) (D : dt) : Option (Int32 × dt) := cq (f_X9_jumpKind S os0 xs1 xs2 D) fun r77 D78 => some (r77, D78)
def f_X9_kindOf_77 (S : sh) (o0 : Nat) (x1 : Int32) (x2 : Int32) (D : dt) : Option (Int32 × dt) := if x2 = (5 : Int32) then (f_X9_kindOf_89 S o0 x1 (1 : Int32) D) else (f_X9_kindOf_89 S o0 x1 (0 : Int32) D)
def f_X9_kindOf (S : sh) (o0 : Nat) (x1 : Int32) (D : dt) : Option (Int32 × dt) := rq (gR D o0 1) fun o80 => ix x1 (sA S o80) <| nm ((gI D o80 x1.toNatClampNeg) &&& (7 : Int32)) fun y85 => if y85 = 1 then (cq (f_X9_loadKind S o0 x1 D) fun r88 D89 => some (r88, D89)) else if y85 = 2 then (rq (gR D o0 1) fun o91 => ix x1 (sA S o91) <| if ((gI D o91 x1.toNatClampNeg) &&& (-25 : Int32)) = (98 : Int32) then (rq (gR D o0 3) fun o97 => ix x1 (sA S o97) <| if (gI D o97 x1.toNatClampNeg) = 0 then (rq (gR D o0 2) fun o103 => ix x1 (sA S o103) <| if (11 : Int32) ≤ (gI D o103 x1.toNatClampNeg) then (some ((0 : Int32), D)) else (some ((8 : Int32), D))) else (some ((0 : Int32), D))) else (some ((0 : Int32), D))) else if y85 = 3 then (cq (f_X9_putKind S o0 x1 D) fun r111 D112 => some (r111, D112)) else if y85 = 4 then (f_X9_kindOf_52 S o0 x1 y85 D) else if y85 = 5 then (f_X9_kindOf_77 S o0 x1 y85 D) else if y85 = 6 then (f_X9_kindOf_77 S o0 x1 y85 D) else if y85 = 7 then (f_X9_kindOf_52 S o0 x1 y85 D) else (rq (gR D o0 1) fun o117 => ix x1 (sA S o117) <| if (gI D o117 x1.toNatClampNeg) = (24 : Int32) then (rq (gR D o0 3) fun o123 => ix x1 (sA S o123) <| if (2 : Int32) ≤ (gI D o123 x1.toNatClampNeg) then (some ((0 : Int32), D)) else (rq (gR D o0 2) fun o129 => ix x1 (sA S o129) <| if (10 : Int32) ≤ (gI D o129 x1.toNatClampNeg) then (some ((0 : Int32), D)) else (rq (gR D o0 4) fun o135 => ix x1 (sA S o135) <| if (gI D o135 x1.toNatClampNeg) = 0 then (some ((11 : Int32), D)) else (some ((0 : Int32), D))))) else (some ((0 : Int32), D)))
-- JudgedCodeModel.widthOf
def f_X9_widthOf (S : sh) (o0 : Nat) (x1 : Int32) (D : dt) : Option (Int32 × dt) := rq (gR D o0 1) fun o10 => ix x1 (sA S o10) <| nm ((gI D o10 x1.toNatClampNeg) &&& (24 : Int32)) fun y15 => if y15 = 0 then (some ((4 : Int32), D)) else (if y15 = (8 : Int32) then (some ((2 : Int32), D)) else (if y15 = (16 : Int32) then (some ((1 : Int32), D)) else (some ((8 : Int32), D))))
-- JudgedCodeModel.isSecond
def f_X9_isSecond_56 (S : sh) (D : dt) : Option (Int32 × dt) := some ((1 : Int32), D)
def f_X9_isSecond (S : sh) (o0 : Nat) (x1 : Int32) (D : dt) : Option (Int32 × dt) := rq (gR D o0 1) fun o37 => ix x1 (sA S o37) <| if (gI D o37 x1.toNatClampNeg) = 0 then (rq (gR D o0 2) fun o43 => ix x1 (sA S o43) <| if (gI D o43 x1.toNatClampNeg) = 0 then (rq (gR D o0 3) fun o49 => ix x1 (sA S o49) <| if (gI D o49 x1.toNatClampNeg) = 0 then (rq (gR D o0 4) fun o55 => ix x1 (sA S o55) <| if (gI D o55 x1.toNatClampNeg) = 0 then (rq (gR D o0 3) fun o61 => ix (x1 - (1 : Int32)) (sA S o61) <| if (gI D o61 (x1 - (1 : Int32)).toNatClampNeg) = 0 then (f_X9_isSecond_56 S D) else (rq (gR D o0 5) fun o67 => ix x1 (sA S o67) <| if (gI D o67 x1.toNatClampNeg) = 0 then (f_X9_isSecond_56 S D) else (some ((0 : Int32), D)))) else (some ((0 : Int32), D))) else (some ((0 : Int32), D))) else (some ((0 : Int32), D))) else (some ((0 : Int32), D))
-- JudgedCodeModel.over
def f_X9_over (x0 : Int64) (x2 : Int64) : Option Int64 := if 0 ≤ (lg_cmp x2 (0 : Int64)) then (ck (¬ x2 = 0) <| nm (j_lshl ((j_lushr x0 (1 : Int32)) / x2) (1 : Int32)) fun y12 => pq (f_X9_isBelow (x0 - (y12 * x2)) x2) fun r14 => if r14 = 0 then (some (y12 + (1 : Int64))) else (some y12)) else (pq (f_X9_isBelow x0 x2) fun r17 => if r17 = 0 then (some (1 : Int64)) else (some (0 : Int64)))
-- JudgedCodeModel.signed
def f_X9_signed (x0 : Int64) (x2 : Int32) : Option Int64 := some (j_lshr (j_lshl x0 ((64 : Int32) - x2)) ((64 : Int32) - x2))
-- JudgedCodeModel.turned
def f_X9_turned_5 : Nat → Int64 → Int32 → Int64 → Int32 → Option Int64
  | 0, _, _, _, _ => none
  | n + 1, x0, x2, x3, x5 => if x2 ≤ x5 then (some x3) else (nm ((j_lshl x3 (8 : Int32)) ||| ((j_lshr x0 x5) &&& (255 : Int64))) fun y7 => nm (x5 + 8) fun y8 => f_X9_turned_5 n x0 x2 y7 y8)
def f_X9_turned (x0 : Int64) (x2 : Int32) : Option Int64 := nm ((0 : Int64)) fun y9 => nm ((0 : Int32)) fun y10 => f_X9_turned_5 LF x0 x2 y9 y10
-- JudgedCodeModel.divided
def f_X9_divided_77 (x6 : Int32) (x7 : Int64) (xs0 : Int64) : Option Int64 := if (lg_cmp xs0 (-1 : Int64)) = 0 then (if x6 = 0 then (some (-x7)) else (some (0 : Int64))) else (if x6 = 0 then (ck (¬ xs0 = 0) <| some (x7 / xs0)) else (ck (¬ xs0 = 0) <| some (x7 - x7 / xs0 * xs0)))
def f_X9_divided_60 (x2 : Int64) (x4 : Int32) (x6 : Int32) (xs0 : Int64) : Option Int64 := if x4 = 0 then (pq (f_X9_signed x2 (32 : Int32)) fun r27 => f_X9_divided_77 x6 xs0 r27) else (f_X9_divided_77 x6 xs0 x2)
def f_X9_divided (x0 : Int64) (x2 : Int64) (x4 : Int32) (x5 : Int32) (x6 : Int32) : Option Int64 := if (lg_cmp x2 (0 : Int64)) = 0 then (if x6 = 0 then (some (0 : Int64)) else (some x0)) else (if x5 = 0 then (if x6 = 0 then (pq (f_X9_over x0 x2) fun r35 => some r35) else (pq (f_X9_over x0 x2) fun r37 => some (x0 - (r37 * x2)))) else (if x4 = 0 then (pq (f_X9_signed x0 (32 : Int32)) fun r32 => f_X9_divided_60 x2 x4 x6 r32) else (f_X9_divided_60 x2 x4 x6 x0)))
-- JudgedCodeModel.made
def f_X9_made_122 (S : sh) (xs0 : Int64) (xs1 : Int64) (xs2 : Int32) (xs3 : Int32) (D : dt) : Option (Int64 × dt) := pq (f_X9_divided xs0 xs1 xs2 xs3 (0 : Int32)) fun r49 => some (r49, D)
def f_X9_made_147 (S : sh) (xs0 : Int64) (xs1 : Int64) (xs2 : Int32) (xs3 : Int32) (D : dt) : Option (Int64 × dt) := pq (f_X9_divided xs0 xs1 xs2 xs3 (1 : Int32)) fun r51 => some (r51, D)
def f_X9_made_206 (S : sh) (o0 : Nat) (x1 : Int32) (x6 : Int64) (D : dt) : Option (Int64 × dt) := rq (gR D o0 4) fun o52 => ix x1 (sA S o52) <| if (gI D o52 x1.toNatClampNeg) = 0 then (some (x6, D)) else (rq (gR D o0 4) fun o58 => ix x1 (sA S o58) <| pq (f_X9_signed x6 (gI D o58 x1.toNatClampNeg)) fun r64 => some (r64, D))
def f_X9_made_198 (S : sh) (x8 : Int32) (xs0 : Int64) (D : dt) : Option (Int64 × dt) := some ((j_lshr xs0 x8), D)
def f_X9_made_14 (S : sh) (o0 : Nat) (x1 : Int32) (x2 : Int32) (x3 : Int32) (x4 : Int64) (x6 : Int64) (xs0 : Int32) (xs1 : Int32) (D : dt) : Option (Int64 × dt) := nm (xs0 &&& xs1) fun y65 => if x2 = 0 then (some ((x4 + x6), D)) else if x2 = 1 then (some ((x4 - x6), D)) else if x2 = 2 then (some ((x4 * x6), D)) else if x2 = 3 then (rq (gR D o0 4) fun o70 => ix x1 (sA S o70) <| if (gI D o70 x1.toNatClampNeg) = (1 : Int32) then (f_X9_made_122 S x4 x6 x3 (1 : Int32) D) else (f_X9_made_122 S x4 x6 x3 (0 : Int32) D)) else if x2 = 4 then (some ((x4 ||| x6), D)) else if x2 = 5 then (some ((x4 &&& x6), D)) else if x2 = 6 then (some ((j_lshl x4 y65), D)) else if x2 = 7 then (some ((j_lushr x4 y65), D)) else if x2 = 8 then (some ((-x4), D)) else if x2 = 9 then (rq (gR D o0 4) fun o82 => ix x1 (sA S o82) <| if (gI D o82 x1.toNatClampNeg) = (1 : Int32) then (f_X9_made_147 S x4 x6 x3 (1 : Int32) D) else (f_X9_made_147 S x4 x6 x3 (0 : Int32) D)) else if x2 = 10 then (some ((x4 ^^^ x6), D)) else if x2 = 11 then (f_X9_made_206 S o0 x1 x6 D) else if x2 = 12 then (if x3 = 0 then (pq (f_X9_signed x4 (32 : Int32)) fun r93 => f_X9_made_198 S y65 r93 D) else (f_X9_made_198 S y65 x4 D)) else (f_X9_made_206 S o0 x1 x6 D)
def f_X9_made (S : sh) (o0 : Nat) (x1 : Int32) (x2 : Int32) (x3 : Int32) (x4 : Int64) (x6 : Int64) (D : dt) : Option (Int64 × dt) := if x3 = 0 then (f_X9_made_14 S o0 x1 x2 x3 x4 x6 x6.toInt32 (31 : Int32) D) else (f_X9_made_14 S o0 x1 x2 x3 x4 x6 x6.toInt32 (63 : Int32) D)
-- JudgedCodeModel.reckon
def f_X9_reckon_89 (S : sh) (o0 : Nat) (x1 : Int32) (x8 : Int64) (D : dt) : Option (Int64 × dt) := rq (gR D o0 5) fun o45 => ix x1 (sA S o45) <| pq (f_X9_turned x8 (gI D o45 x1.toNatClampNeg)) fun r51 => some (r51, D)
def f_X9_reckon_65 (S : sh) (o0 : Nat) (x1 : Int32) (x6 : Int32) (xs0 : Int64) (D : dt) : Option (Int64 × dt) := if x6 = 0 then (rq (gR D o0 1) fun o53 => ix x1 (sA S o53) <| if ((gI D o53 x1.toNatClampNeg) &&& (8 : Int32)) = 0 then (some (xs0, D)) else (f_X9_reckon_89 S o0 x1 xs0 D)) else (f_X9_reckon_89 S o0 x1 xs0 D)
def f_X9_reckon_133 (S : sh) (o0 : Nat) (x1 : Int32) (x6 : Int32) (x7 : Int32) (x8 : Int64) (xs0 : Int64) (D : dt) : Option (Int64 × dt) := cq (f_X9_made S o0 x1 x7 x6 x8 xs0 D) fun r60 D61 => if x6 = 0 then (some ((r60 &&& (4294967295 : Int64)), D61)) else (some (r60, D61))
def f_X9_reckon_115 (S : sh) (o0 : Nat) (x1 : Int32) (x4 : Int64) (x6 : Int32) (x7 : Int32) (xs0 : Int64) (D : dt) : Option (Int64 × dt) := if x6 = 0 then (f_X9_reckon_133 S o0 x1 x6 x7 xs0 (x4 &&& (4294967295 : Int64)) D) else (f_X9_reckon_133 S o0 x1 x6 x7 xs0 x4 D)
def f_X9_reckon_19 (S : sh) (o0 : Nat) (x1 : Int32) (x2 : Int64) (x4 : Int64) (xs0 : Int32) (D : dt) : Option (Int64 × dt) := rq (gR D o0 1) fun o64 => ix x1 (sA S o64) <| nm ((gI D o64 x1.toNatClampNeg) >>> ((4 : Int32) &&& 31)) fun y69 => if y69 = (13 : Int32) then (rq (gR D o0 5) fun o72 => ix x1 (sA S o72) <| if (gI D o72 x1.toNatClampNeg) = (64 : Int32) then (f_X9_reckon_65 S o0 x1 xs0 x2 D) else (rq (gR D o0 5) fun o78 => ix x1 (sA S o78) <| f_X9_reckon_65 S o0 x1 xs0 (x2 &&& ((j_lshl (1 : Int64) (gI D o78 x1.toNatClampNeg)) - (1 : Int64))) D)) else (if xs0 = 0 then (f_X9_reckon_115 S o0 x1 x4 xs0 y69 (x2 &&& (4294967295 : Int64)) D) else (f_X9_reckon_115 S o0 x1 x4 xs0 y69 x2 D))
def f_X9_reckon (S : sh) (o0 : Nat) (x1 : Int32) (x2 : Int64) (x4 : Int64) (D : dt) : Option (Int64 × dt) := rq (gR D o0 1) fun o83 => ix x1 (sA S o83) <| if ((gI D o83 x1.toNatClampNeg) &&& (7 : Int32)) = (7 : Int32) then (f_X9_reckon_19 S o0 x1 x2 x4 (1 : Int32) D) else (f_X9_reckon_19 S o0 x1 x2 x4 (0 : Int32) D)
-- JudgedCodeModel.second
def f_X9_second (S : sh) (o0 : Nat) (x1 : Int32) (D : dt) : Option (Int64 × dt) := rq (gR D o0 1) fun o22 => ix x1 (sA S o22) <| if ((gI D o22 x1.toNatClampNeg) &&& (8 : Int32)) = 0 then (rq (gR D o0 5) fun o28 => ix x1 (sA S o28) <| some (((gI D o28 x1.toNatClampNeg).toInt64), D)) else (rq (gR D o0 21) fun o33 => rq (gR D o0 3) fun o37 => ix x1 (sA S o37) <| ix (gI D o37 x1.toNatClampNeg) (sA S o33) <| some ((gL D o33 (gI D o37 x1.toNatClampNeg).toNatClampNeg), D))
theorem mk_X9_putKind : MkV yX9_putKind RX9 cX9_putKind 3 (some .int) 1 := ⟨⟨lk_1331, lk_69, lk_121, (tb_in (i := 1332) (by decide +kernel) (by decide +kernel))⟩, by decide +kernel⟩
theorem mk_X9_kindOf : MkV yX9_kindOf RX9 cX9_kindOf 3 (some .int) 1 := ⟨⟨lk_1311, lk_65, lk_121, (tb_in (i := 1312) (by decide +kernel) (by decide +kernel))⟩, by decide +kernel⟩
theorem mk_X9_widthOf : MkV yX9_widthOf RX9 cX9_widthOf 3 (some .int) 1 := ⟨⟨lk_1307, lk_64, lk_121, (tb_in (i := 1308) (by decide +kernel) (by decide +kernel))⟩, by decide +kernel⟩
theorem mk_X9_isSecond : MkV yX9_isSecond RX9 cX9_isSecond 2 (some .boolean) 1 := ⟨⟨lk_1411, lk_84, lk_121, (tb_in (i := 1412) (by decide +kernel) (by decide +kernel))⟩, by decide +kernel⟩
theorem mk_X9_over : MkS yX9_over cX9_over 6 (some .long) 2 := ⟨⟨lk_1353, lk_121, (tb_in (i := 1354) (by decide +kernel) (by decide +kernel))⟩, by decide +kernel⟩
theorem mk_X9_signed : MkS yX9_signed cX9_signed 3 (some .long) 2 := ⟨⟨lk_1360, lk_121, (tb_in (i := 1361) (by decide +kernel) (by decide +kernel))⟩, by decide +kernel⟩
theorem mk_X9_turned : MkS yX9_turned cX9_turned 6 (some .long) 2 := ⟨⟨lk_1342, lk_121, (tb_in (i := 1343) (by decide +kernel) (by decide +kernel))⟩, by decide +kernel⟩
theorem mk_X9_divided : MkS yX9_divided cX9_divided 11 (some .long) 5 := ⟨⟨lk_1350, lk_121, (tb_in (i := 1351) (by decide +kernel) (by decide +kernel))⟩, by decide +kernel⟩
theorem mk_X9_made : MkV yX9_made RX9 cX9_made 9 (some .long) 5 := ⟨⟨lk_1347, lk_72, lk_121, (tb_in (i := 1348) (by decide +kernel) (by decide +kernel))⟩, by decide +kernel⟩
theorem mk_X9_reckon : MkV yX9_reckon RX9 cX9_reckon 14 (some .long) 3 := ⟨⟨lk_1339, lk_71, lk_121, (tb_in (i := 1340) (by decide +kernel) (by decide +kernel))⟩, by decide +kernel⟩
theorem mk_X9_second : MkV yX9_second RX9 cX9_second 2 (some .long) 1 := ⟨⟨lk_1335, lk_70, lk_121, (tb_in (i := 1336) (by decide +kernel) (by decide +kernel))⟩, by decide +kernel⟩
section
variable {p : Program} {l : Launch} {e : Env} {R : Room} {s : State} {m : MethodId} {args : Array Value} {below : List Frame} {meth : Method} {c : Code} {H : Heap} {locs : List Loc} {G : va_G} {cA : Nat → ClassId} {S : sh} {D : dt} {ad : Nat → Nat} {A : Nat → Prop}
set_option maxHeartbeats 4000000 in
set_option maxRecDepth 100000 in
theorem w_X9_putKind_151 {r : Int32} {D' : dt} (hC : Cx RX9 cX9_putKind 3 (some .int) p s m args meth c) (hR : 0 ≤ R.frames ∧ 0 ≤ R.locals) : ∀ (o0 a0 : Nat) (x1 : Int32) (D : dt) (H : Heap) (locs : List Loc) (ls : Array Slot), Is S ad o0 a0 8 → Wd G cA S D ad A s H locs → lv_has ls 3 [(0, .ref a0), (1, .int x1)] → f_X9_putKind_151 S o0 x1 D = some (r, D') → W p l e R s m args below meth c H locs 0 0 (MQ below (Qn (some (.int r)) True (wpost G cA S D' ad A) A) args s 0 0 A) (F0 m 151 ls []) := by
  obtain ⟨hx, hb, -⟩ := id hC
  intro o0 a0 x1 D H locs ls hi0 hw hl h
  unfold f_X9_putKind_151 at h
  refine lv_aload_n hx hb dX9_putKind_151 rfl (lv_at hl 0 rfl) ?_
  obtain ⟨o59, ho62, h⟩ := rq_i h
  refine r_getR hC hw kc_8 hi0 3 rfl lk_1072 dX9_putKind_152 rfl ho62 (fun a60 hi61 => ?_)
  refine lv_iload_n hx hb dX9_putKind_155 rfl (lv_at hl 1 rfl) ?_
  obtain ⟨hn63, h⟩ := ix_i h
  refine r_iald hC hw hi61 hn63 dX9_putKind_156 ?_
  refine lv_bipush (v := 10) hx hb dX9_putKind_157 (by decide) ?_
  refine lv_icmp_ge (tgt := 167) hx hb dX9_putKind_159 (by decide) (fun c64 => ?_) (fun c64 => ?_)
  · have h := i_yes c64 h
    refine lv_iconst (v := 0) hx hb dX9_putKind_167 (by decide) ?_
    cases h
    exact r_iret hC hw dX9_putKind_168
  · have h := i_no c64 h
    refine lv_bipush (v := 10) hx hb dX9_putKind_162 (by decide) ?_
    refine lv_goto (tgt := 168) hx hb dX9_putKind_164 (by decide) ?_
    cases h
    exact r_iret hC hw dX9_putKind_168
set_option maxHeartbeats 4000000 in
set_option maxRecDepth 100000 in
theorem w_X9_putKind_80 {r : Int32} {D' : dt} (hC : Cx RX9 cX9_putKind 3 (some .int) p s m args meth c) (hR : 0 ≤ R.frames ∧ 0 ≤ R.locals) : ∀ (o0 a0 : Nat) (x1 : Int32) (D : dt) (H : Heap) (locs : List Loc) (ls : Array Slot), Is S ad o0 a0 8 → Wd G cA S D ad A s H locs → lv_has ls 3 [(0, .ref a0), (1, .int x1)] → f_X9_putKind_80 S o0 x1 D = some (r, D') → W p l e R s m args below meth c H locs 0 0 (MQ below (Qn (some (.int r)) True (wpost G cA S D' ad A) A) args s 0 0 A) (F0 m 80 ls []) := by
  obtain ⟨hx, hb, -⟩ := id hC
  intro o0 a0 x1 D H locs ls hi0 hw hl h
  unfold f_X9_putKind_80 at h
  refine lv_aload_n hx hb dX9_putKind_80 rfl (lv_at hl 0 rfl) ?_
  obtain ⟨o65, ho68, h⟩ := rq_i h
  refine r_getR hC hw kc_8 hi0 5 rfl lk_1074 dX9_putKind_81 rfl ho68 (fun a66 hi67 => ?_)
  refine lv_iload_n hx hb dX9_putKind_84 rfl (lv_at hl 1 rfl) ?_
  obtain ⟨hn69, h⟩ := ix_i h
  refine r_iald hC hw hi67 hn69 dX9_putKind_85 ?_
  refine lv_topi (fun y70 ey70 => ?_)
  have h := nm_i h y70 ey70
  refine lv_istore_n (lv' := [(2, .int y70), (0, .ref a0), (1, .int x1)]) hx hb dX9_putKind_86 rfl hl (by decide) rfl (fun ls hl => ?_)
  refine lv_iload_n hx hb dX9_putKind_87 rfl (lv_at hl 0 rfl) ?_
  refine lv_sipush (v := 241) hx hb dX9_putKind_88 (by decide) ?_
  refine lv_icmp_eq (tgt := 117) hx hb dX9_putKind_91 (by decide) (fun c71 => ?_) (fun c71 => ?_)
  · have h := i_yes c71 h
    refine lv_bipush (v := 10) hx hb dX9_putKind_117 (by decide) ?_
    cases h
    exact r_iret hC hw dX9_putKind_119
  · have h := i_no c71 h
    refine lv_iload_n hx hb dX9_putKind_94 rfl (lv_at hl 0 rfl) ?_
    refine lv_if_eq (tgt := 117) hx hb dX9_putKind_95 (by decide) (fun c72 => ?_) (fun c72 => ?_)
    · have h := i_yes c72 h
      refine lv_bipush (v := 10) hx hb dX9_putKind_117 (by decide) ?_
      cases h
      exact r_iret hC hw dX9_putKind_119
    · have h := i_no c72 h
      refine lv_iload_n hx hb dX9_putKind_98 rfl (lv_at hl 0 rfl) ?_
      refine lv_bipush (v := 64) hx hb dX9_putKind_99 (by decide) ?_
      refine lv_icmp_eq (tgt := 117) hx hb dX9_putKind_101 (by decide) (fun c73 => ?_) (fun c73 => ?_)
      · have h := i_yes c73 h
        refine lv_bipush (v := 10) hx hb dX9_putKind_117 (by decide) ?_
        cases h
        exact r_iret hC hw dX9_putKind_119
      · have h := i_no c73 h
        refine lv_iload_n hx hb dX9_putKind_104 rfl (lv_at hl 0 rfl) ?_
        refine lv_bipush (v := 80) hx hb dX9_putKind_105 (by decide) ?_
        refine lv_icmp_eq (tgt := 117) hx hb dX9_putKind_107 (by decide) (fun c74 => ?_) (fun c74 => ?_)
        · have h := i_yes c74 h
          refine lv_bipush (v := 10) hx hb dX9_putKind_117 (by decide) ?_
          cases h
          exact r_iret hC hw dX9_putKind_119
        · have h := i_no c74 h
          refine lv_iload_n hx hb dX9_putKind_110 rfl (lv_at hl 0 rfl) ?_
          refine lv_sipush (v := 160) hx hb dX9_putKind_111 (by decide) ?_
          refine lv_icmp_ne (tgt := 120) hx hb dX9_putKind_114 (by decide) (fun c75 => ?_) (fun c75 => ?_)
          · have h := i_no c75 h
            refine lv_iload_n hx hb dX9_putKind_120 rfl (lv_at hl 0 rfl) ?_
            refine lv_iconst (v := 1) hx hb dX9_putKind_121 (by decide) ?_
            refine lv_icmp_eq (tgt := 151) hx hb dX9_putKind_122 (by decide) (fun c76 => ?_) (fun c76 => ?_)
            · have h := i_yes c76 h
              exact w_X9_putKind_151 hC hR o0 a0 x1 _ _ _ _ hi0 hw (lv_sub hl [1, 2] rfl) h
            · have h := i_no c76 h
              refine lv_iload_n hx hb dX9_putKind_125 rfl (lv_at hl 0 rfl) ?_
              refine lv_bipush (v := 65) hx hb dX9_putKind_126 (by decide) ?_
              refine lv_icmp_eq (tgt := 151) hx hb dX9_putKind_128 (by decide) (fun c77 => ?_) (fun c77 => ?_)
              · have h := i_yes c77 h
                exact w_X9_putKind_151 hC hR o0 a0 x1 _ _ _ _ hi0 hw (lv_sub hl [1, 2] rfl) h
              · have h := i_no c77 h
                refine lv_iload_n hx hb dX9_putKind_131 rfl (lv_at hl 0 rfl) ?_
                refine lv_bipush (v := 81) hx hb dX9_putKind_132 (by decide) ?_
                refine lv_icmp_eq (tgt := 151) hx hb dX9_putKind_134 (by decide) (fun c78 => ?_) (fun c78 => ?_)
                · have h := i_yes c78 h
                  exact w_X9_putKind_151 hC hR o0 a0 x1 _ _ _ _ hi0 hw (lv_sub hl [1, 2] rfl) h
                · have h := i_no c78 h
                  refine lv_iload_n hx hb dX9_putKind_137 rfl (lv_at hl 0 rfl) ?_
                  refine lv_sipush (v := 161) hx hb dX9_putKind_138 (by decide) ?_
                  refine lv_icmp_eq (tgt := 151) hx hb dX9_putKind_141 (by decide) (fun c79 => ?_) (fun c79 => ?_)
                  · have h := i_yes c79 h
                    exact w_X9_putKind_151 hC hR o0 a0 x1 _ _ _ _ hi0 hw (lv_sub hl [1, 2] rfl) h
                  · have h := i_no c79 h
                    refine lv_iload_n hx hb dX9_putKind_144 rfl (lv_at hl 0 rfl) ?_
                    refine lv_sipush (v := 225) hx hb dX9_putKind_145 (by decide) ?_
                    refine lv_icmp_ne (tgt := 167) hx hb dX9_putKind_148 (by decide) (fun c80 => ?_) (fun c80 => ?_)
                    · have h := i_no c80 h
                      refine lv_iconst (v := 0) hx hb dX9_putKind_167 (by decide) ?_
                      cases h
                      exact r_iret hC hw dX9_putKind_168
                    · have h := i_yes c80 h
                      exact w_X9_putKind_151 hC hR o0 a0 x1 _ _ _ _ hi0 hw (lv_sub hl [1, 2] rfl) h
          · have h := i_yes c75 h
            refine lv_bipush (v := 10) hx hb dX9_putKind_117 (by decide) ?_
            cases h
            exact r_iret hC hw dX9_putKind_119
set_option maxHeartbeats 4000000 in
set_option maxRecDepth 100000 in
theorem w_X9_putKind_0 {r : Int32} {D' : dt} (hC : Cx RX9 cX9_putKind 3 (some .int) p s m args meth c) (hR : 0 ≤ R.frames ∧ 0 ≤ R.locals) : ∀ (o0 a0 : Nat) (x1 : Int32) (D : dt) (H : Heap) (locs : List Loc) (ls : Array Slot), Is S ad o0 a0 8 → Wd G cA S D ad A s H locs → lv_has ls 3 [(0, .ref a0), (1, .int x1)] → f_X9_putKind S o0 x1 D = some (r, D') → W p l e R s m args below meth c H locs 0 0 (MQ below (Qn (some (.int r)) True (wpost G cA S D' ad A) A) args s 0 0 A) (F0 m 0 ls []) := by
  obtain ⟨hx, hb, -⟩ := id hC
  intro o0 a0 x1 D H locs ls hi0 hw hl h
  unfold f_X9_putKind at h
  refine lv_aload_n hx hb dX9_putKind_0 rfl (lv_at hl 0 rfl) ?_
  obtain ⟨o81, ho84, h⟩ := rq_i h
  refine r_getR hC hw kc_8 hi0 2 rfl lk_1071 dX9_putKind_1 rfl ho84 (fun a82 hi83 => ?_)
  refine lv_iload_n hx hb dX9_putKind_4 rfl (lv_at hl 1 rfl) ?_
  obtain ⟨hn85, h⟩ := ix_i h
  refine r_iald hC hw hi83 hn85 dX9_putKind_5 ?_
  refine lv_bipush (v := 11) hx hb dX9_putKind_6 (by decide) ?_
  refine lv_icmp_ge (tgt := 22) hx hb dX9_putKind_8 (by decide) (fun c86 => ?_) (fun c86 => ?_)
  · have h := i_yes c86 h
    refine lv_iconst (v := 0) hx hb dX9_putKind_22 (by decide) ?_
    cases h
    exact r_iret hC hw dX9_putKind_23
  · have h := i_no c86 h
    refine lv_aload_n hx hb dX9_putKind_11 rfl (lv_at hl 0 rfl) ?_
    obtain ⟨o87, ho90, h⟩ := rq_i h
    refine r_getR hC hw kc_8 hi0 3 rfl lk_1072 dX9_putKind_12 rfl ho90 (fun a88 hi89 => ?_)
    refine lv_iload_n hx hb dX9_putKind_15 rfl (lv_at hl 1 rfl) ?_
    obtain ⟨hn91, h⟩ := ix_i h
    refine r_iald hC hw hi89 hn91 dX9_putKind_16 ?_
    refine lv_bipush (v := 11) hx hb dX9_putKind_17 (by decide) ?_
    refine lv_icmp_lt (tgt := 24) hx hb dX9_putKind_19 (by decide) (fun c92 => ?_) (fun c92 => ?_)
    · have h := i_yes c92 h
      refine lv_aload_n hx hb dX9_putKind_24 rfl (lv_at hl 0 rfl) ?_
      obtain ⟨o93, ho96, h⟩ := rq_i h
      refine r_getR hC hw kc_8 hi0 1 rfl lk_1070 dX9_putKind_25 rfl ho96 (fun a94 hi95 => ?_)
      refine lv_iload_n hx hb dX9_putKind_28 rfl (lv_at hl 1 rfl) ?_
      obtain ⟨hn97, h⟩ := ix_i h
      refine r_iald hC hw hi95 hn97 dX9_putKind_29 ?_
      refine lv_bipush (v := (-25)) hx hb dX9_putKind_30 (by decide) ?_
      refine lv_iand hx hb dX9_putKind_32 ?_
      refine lv_bipush (v := 99) hx hb dX9_putKind_33 (by decide) ?_
      refine lv_icmp_ne (tgt := 54) hx hb dX9_putKind_35 (by decide) (fun c98 => ?_) (fun c98 => ?_)
      · have h := i_no c98 h
        refine lv_aload_n hx hb dX9_putKind_54 rfl (lv_at hl 0 rfl) ?_
        obtain ⟨o99, ho102, h⟩ := rq_i h
        refine r_getR hC hw kc_8 hi0 1 rfl lk_1070 dX9_putKind_55 rfl ho102 (fun a100 hi101 => ?_)
        refine lv_iload_n hx hb dX9_putKind_58 rfl (lv_at hl 1 rfl) ?_
        obtain ⟨hn103, h⟩ := ix_i h
        refine r_iald hC hw hi101 hn103 dX9_putKind_59 ?_
        refine lv_sipush (v := 195) hx hb dX9_putKind_60 (by decide) ?_
        refine lv_icmp_eq (tgt := 80) hx hb dX9_putKind_63 (by decide) (fun c104 => ?_) (fun c104 => ?_)
        · have h := i_yes c104 h
          exact w_X9_putKind_80 hC hR o0 a0 x1 _ _ _ _ hi0 hw (lv_sub hl [0, 1] rfl) h
        · have h := i_no c104 h
          refine lv_aload_n hx hb dX9_putKind_66 rfl (lv_at hl 0 rfl) ?_
          obtain ⟨o105, ho108, h⟩ := rq_i h
          refine r_getR hC hw kc_8 hi0 1 rfl lk_1070 dX9_putKind_67 rfl ho108 (fun a106 hi107 => ?_)
          refine lv_iload_n hx hb dX9_putKind_70 rfl (lv_at hl 1 rfl) ?_
          obtain ⟨hn109, h⟩ := ix_i h
          refine r_iald hC hw hi107 hn109 dX9_putKind_71 ?_
          refine lv_sipush (v := 219) hx hb dX9_putKind_72 (by decide) ?_
          refine lv_icmp_eq (tgt := 80) hx hb dX9_putKind_75 (by decide) (fun c110 => ?_) (fun c110 => ?_)
          · have h := i_yes c110 h
            exact w_X9_putKind_80 hC hR o0 a0 x1 _ _ _ _ hi0 hw (lv_sub hl [0, 1] rfl) h
          · have h := i_no c110 h
            refine lv_iconst (v := 0) hx hb dX9_putKind_78 (by decide) ?_
            cases h
            exact r_iret hC hw dX9_putKind_79
      · have h := i_yes c98 h
        refine lv_aload_n hx hb dX9_putKind_38 rfl (lv_at hl 0 rfl) ?_
        obtain ⟨o111, ho114, h⟩ := rq_i h
        refine r_getR hC hw kc_8 hi0 5 rfl lk_1074 dX9_putKind_39 rfl ho114 (fun a112 hi113 => ?_)
        refine lv_iload_n hx hb dX9_putKind_42 rfl (lv_at hl 1 rfl) ?_
        obtain ⟨hn115, h⟩ := ix_i h
        refine r_iald hC hw hi113 hn115 dX9_putKind_43 ?_
        refine lv_if_ne (tgt := 52) hx hb dX9_putKind_44 (by decide) (fun c116 => ?_) (fun c116 => ?_)
        · have h := i_no c116 h
          refine lv_iconst (v := 0) hx hb dX9_putKind_52 (by decide) ?_
          cases h
          exact r_iret hC hw dX9_putKind_53
        · have h := i_yes c116 h
          refine lv_bipush (v := 9) hx hb dX9_putKind_47 (by decide) ?_
          refine lv_goto (tgt := 53) hx hb dX9_putKind_49 (by decide) ?_
          cases h
          exact r_iret hC hw dX9_putKind_53
    · have h := i_no c92 h
      refine lv_iconst (v := 0) hx hb dX9_putKind_22 (by decide) ?_
      cases h
      exact r_iret hC hw dX9_putKind_23
set_option maxHeartbeats 4000000 in
set_option maxRecDepth 100000 in
theorem k_X9_putKind {l : Launch} {G : va_G} {cA : Nat → ClassId} {S : sh} {D D' : dt} {ad : Nat → Nat} (sz : Nat) {o0 a0 : Nat} {x1 : Int32} {r : Int32} (hi0 : Is S ad o0 a0 8) (h : f_X9_putKind S o0 x1 D = some (r, D')) : Co l yX9_putKind (Cond.code yX9_putKind cX9_putKind 3 (some .int) :: tb0) 0 0 [.ref a0, .int x1] G cA S D ad sz (some (.int r)) True D' := by
  refine Met.ofW (cc := cX9_putKind) (maxL := 3) (ret := (some .int)) (by decide) rfl ?_
  intro p e s m args below meth c s₁ B hml hv
  obtain ⟨rfl, hsz, hP, hK, hD0, hT, hX⟩ := hv
  subst hsz
  have hts := atoms_spec (ws := Cond.code yX9_putKind cX9_putKind 3 (some .int) :: tb0) B.pre
  have hC : Cx RX9 cX9_putKind 3 (some .int) p s m _ meth c := ⟨B.exec, B.bytes, hml, findClass_of_methodNamed B.named, fun w q => hts w (List.mem_cons_of_mem _ q), B.returns, B.notSynchronized⟩
  have hw := Wd.entry hP hK hD0 hT hX
  have hl := lv_entry ([.ref a0, .int x1]) (n := 3) (Nat.le_of_ble_eq_true rfl)
  rw [lg_entry_eq]
  exact w_X9_putKind_0 hC ⟨Nat.le_refl _, Nat.le_refl _⟩ o0 a0 x1 D _ _ _ hi0 hw hl h
set_option maxHeartbeats 4000000 in
set_option maxRecDepth 100000 in
theorem w_X9_kindOf_65 {r : Int32} {D' : dt} (hC : Cx RX9 cX9_kindOf 3 (some .int) p s m args meth c) (hR : 3 ≤ R.frames ∧ 69 ≤ R.locals) : ∀ (os0 as0 : Nat) (xs1 : Int32) (xs2 : Int32) (D : dt) (H : Heap) (locs : List Loc) (ls : Array Slot), Is S ad os0 as0 8 → Wd G cA S D ad A s H locs → lv_has ls 3 [] → f_X9_kindOf_65 S os0 xs1 xs2 D = some (r, D') → W p l e R s m args below meth c H locs 0 0 (MQ below (Qn (some (.int r)) True (wpost G cA S D' ad A) A) args s 0 0 A) (F0 m 65 ls [.int xs2, .int xs1, .ref as0]) := by
  obtain ⟨hx, hb, -⟩ := id hC
  intro os0 as0 xs1 xs2 D H locs ls his0 hw hl h
  unfold f_X9_kindOf_65 at h
  obtain ⟨r72, D73, hq71, h⟩ := cq_i h
  refine r_cV (st' := [.int r72]) [.int xs1, .int xs2] [] hC hw kc_8 his0 (k_X9_isRegister _ his0 hq71) mk_X9_isRegister lk_1313 ⟨Nat.le_trans (by decide) hR.1, Nat.le_trans (by decide) hR.2⟩ ⟨Nat.zero_le _, Nat.zero_le _⟩ rfl hl.1 rfl rfl (Nat.le_of_ble_eq_true rfl) dX9_kindOf_65 (fun hP H locs hw => ?_)
  refine lv_if_eq (tgt := 75) hx hb dX9_kindOf_68 (by decide) (fun c74 => ?_) (fun c74 => ?_)
  · have h := i_yes c74 h
    refine lv_iconst (v := 0) hx hb dX9_kindOf_75 (by decide) ?_
    cases h
    exact r_iret hC hw dX9_kindOf_76
  · have h := i_no c74 h
    refine lv_iconst (v := 1) hx hb dX9_kindOf_71 (by decide) ?_
    refine lv_goto (tgt := 76) hx hb dX9_kindOf_72 (by decide) ?_
    cases h
    exact r_iret hC hw dX9_kindOf_76
set_option maxHeartbeats 4000000 in
set_option maxRecDepth 100000 in
theorem w_X9_kindOf_52 {r : Int32} {D' : dt} (hC : Cx RX9 cX9_kindOf 3 (some .int) p s m args meth c) (hR : 3 ≤ R.frames ∧ 69 ≤ R.locals) : ∀ (o0 a0 : Nat) (x1 : Int32) (x2 : Int32) (D : dt) (H : Heap) (locs : List Loc) (ls : Array Slot), Is S ad o0 a0 8 → Wd G cA S D ad A s H locs → lv_has ls 3 [(0, .ref a0), (1, .int x1), (2, .int x2)] → f_X9_kindOf_52 S o0 x1 x2 D = some (r, D') → W p l e R s m args below meth c H locs 0 0 (MQ below (Qn (some (.int r)) True (wpost G cA S D' ad A) A) args s 0 0 A) (F0 m 52 ls []) := by
  obtain ⟨hx, hb, -⟩ := id hC
  intro o0 a0 x1 x2 D H locs ls hi0 hw hl h
  unfold f_X9_kindOf_52 at h
  refine lv_aload_n hx hb dX9_kindOf_52 rfl (lv_at hl 0 rfl) ?_
  refine lv_iload_n hx hb dX9_kindOf_53 rfl (lv_at hl 1 rfl) ?_
  refine lv_iload_n hx hb dX9_kindOf_54 rfl (lv_at hl 2 rfl) ?_
  refine lv_bipush (v := 7) hx hb dX9_kindOf_55 (by decide) ?_
  refine lv_icmp_ne (tgt := 64) hx hb dX9_kindOf_57 (by decide) (fun c75 => ?_) (fun c75 => ?_)
  · have h := i_no c75 h
    refine lv_iconst (v := 0) hx hb dX9_kindOf_64 (by decide) ?_
    exact w_X9_kindOf_65 hC hR o0 a0 x1 (0 : Int32) _ _ _ _ hi0 hw (lv_sub hl [] rfl) h
  · have h := i_yes c75 h
    refine lv_iconst (v := 1) hx hb dX9_kindOf_60 (by decide) ?_
    refine lv_goto (tgt := 65) hx hb dX9_kindOf_61 (by decide) ?_
    exact w_X9_kindOf_65 hC hR o0 a0 x1 (1 : Int32) _ _ _ _ hi0 hw (lv_sub hl [] rfl) h
set_option maxHeartbeats 4000000 in
set_option maxRecDepth 100000 in
theorem w_X9_kindOf_89 {r : Int32} {D' : dt} (hC : Cx RX9 cX9_kindOf 3 (some .int) p s m args meth c) (hR : 3 ≤ R.frames ∧ 69 ≤ R.locals) : ∀ (os0 as0 : Nat) (xs1 : Int32) (xs2 : Int32) (D : dt) (H : Heap) (locs : List Loc) (ls : Array Slot), Is S ad os0 as0 8 → Wd G cA S D ad A s H locs → lv_has ls 3 [] → f_X9_kindOf_89 S os0 xs1 xs2 D = some (r, D') → W p l e R s m args below meth c H locs 0 0 (MQ below (Qn (some (.int r)) True (wpost G cA S D' ad A) A) args s 0 0 A) (F0 m 89 ls [.int xs2, .int xs1, .ref as0]) := by
  obtain ⟨hx, hb, -⟩ := id hC
  intro os0 as0 xs1 xs2 D H locs ls his0 hw hl h
  unfold f_X9_kindOf_89 at h
  obtain ⟨r77, D78, hq76, h⟩ := cq_i h
  refine r_cV (st' := [.int r77]) [.int xs1, .int xs2] [] hC hw kc_8 his0 (k_X9_jumpKind _ his0 hq76) mk_X9_jumpKind lk_1317 ⟨Nat.le_trans (by decide) hR.1, Nat.le_trans (by decide) hR.2⟩ ⟨Nat.zero_le _, Nat.zero_le _⟩ rfl hl.1 rfl rfl (Nat.le_of_ble_eq_true rfl) dX9_kindOf_89 (fun hP H locs hw => ?_)
  cases h
  exact r_iret hC hw dX9_kindOf_92
set_option maxHeartbeats 4000000 in
set_option maxRecDepth 100000 in
theorem w_X9_kindOf_77 {r : Int32} {D' : dt} (hC : Cx RX9 cX9_kindOf 3 (some .int) p s m args meth c) (hR : 3 ≤ R.frames ∧ 69 ≤ R.locals) : ∀ (o0 a0 : Nat) (x1 : Int32) (x2 : Int32) (D : dt) (H : Heap) (locs : List Loc) (ls : Array Slot), Is S ad o0 a0 8 → Wd G cA S D ad A s H locs → lv_has ls 3 [(0, .ref a0), (1, .int x1), (2, .int x2)] → f_X9_kindOf_77 S o0 x1 x2 D = some (r, D') → W p l e R s m args below meth c H locs 0 0 (MQ below (Qn (some (.int r)) True (wpost G cA S D' ad A) A) args s 0 0 A) (F0 m 77 ls []) := by
  obtain ⟨hx, hb, -⟩ := id hC
  intro o0 a0 x1 x2 D H locs ls hi0 hw hl h
  unfold f_X9_kindOf_77 at h
  refine lv_aload_n hx hb dX9_kindOf_77 rfl (lv_at hl 0 rfl) ?_
  refine lv_iload_n hx hb dX9_kindOf_78 rfl (lv_at hl 1 rfl) ?_
  refine lv_iload_n hx hb dX9_kindOf_79 rfl (lv_at hl 2 rfl) ?_
  refine lv_iconst (v := 5) hx hb dX9_kindOf_80 (by decide) ?_
  refine lv_icmp_ne (tgt := 88) hx hb dX9_kindOf_81 (by decide) (fun c79 => ?_) (fun c79 => ?_)
  · have h := i_no c79 h
    refine lv_iconst (v := 0) hx hb dX9_kindOf_88 (by decide) ?_
    exact w_X9_kindOf_89 hC hR o0 a0 x1 (0 : Int32) _ _ _ _ hi0 hw (lv_sub hl [] rfl) h
  · have h := i_yes c79 h
    refine lv_iconst (v := 1) hx hb dX9_kindOf_84 (by decide) ?_
    refine lv_goto (tgt := 89) hx hb dX9_kindOf_85 (by decide) ?_
    exact w_X9_kindOf_89 hC hR o0 a0 x1 (1 : Int32) _ _ _ _ hi0 hw (lv_sub hl [] rfl) h
set_option maxHeartbeats 4000000 in
set_option maxRecDepth 100000 in
theorem w_X9_kindOf_0 {r : Int32} {D' : dt} (hC : Cx RX9 cX9_kindOf 3 (some .int) p s m args meth c) (hR : 3 ≤ R.frames ∧ 69 ≤ R.locals) : ∀ (o0 a0 : Nat) (x1 : Int32) (D : dt) (H : Heap) (locs : List Loc) (ls : Array Slot), Is S ad o0 a0 8 → Wd G cA S D ad A s H locs → lv_has ls 3 [(0, .ref a0), (1, .int x1)] → f_X9_kindOf S o0 x1 D = some (r, D') → W p l e R s m args below meth c H locs 0 0 (MQ below (Qn (some (.int r)) True (wpost G cA S D' ad A) A) args s 0 0 A) (F0 m 0 ls []) := by
  obtain ⟨hx, hb, -⟩ := id hC
  intro o0 a0 x1 D H locs ls hi0 hw hl h
  unfold f_X9_kindOf at h
  refine lv_aload_n hx hb dX9_kindOf_0 rfl (lv_at hl 0 rfl) ?_
  obtain ⟨o80, ho83, h⟩ := rq_i h
  refine r_getR hC hw kc_8 hi0 1 rfl lk_1070 dX9_kindOf_1 rfl ho83 (fun a81 hi82 => ?_)
  refine lv_iload_n hx hb dX9_kindOf_4 rfl (lv_at hl 1 rfl) ?_
  obtain ⟨hn84, h⟩ := ix_i h
  refine r_iald hC hw hi82 hn84 dX9_kindOf_5 ?_
  refine lv_bipush (v := 7) hx hb dX9_kindOf_6 (by decide) ?_
  refine lv_iand hx hb dX9_kindOf_8 ?_
  refine lv_topi (fun y85 ey85 => ?_)
  have h := nm_i h y85 ey85
  refine lv_istore_n (lv' := [(2, .int y85), (0, .ref a0), (1, .int x1)]) hx hb dX9_kindOf_9 rfl hl (by decide) rfl (fun ls hl => ?_)
  refine lv_iload_n hx hb dX9_kindOf_10 rfl (lv_at hl 0 rfl) ?_
  by_cases c86 : y85 = 1
  · have h := i_yes c86 h
    refine lv_tableIn (off := 82) (tgt := 93) hx hb dX9_kindOf_11 (by rw [c86]; decide) (by rw [c86]; decide) (by rw [c86] <;> rfl) (by decide) ?_
    refine lv_aload_n hx hb dX9_kindOf_93 rfl (lv_at hl 1 rfl) ?_
    refine lv_iload_n hx hb dX9_kindOf_94 rfl (lv_at hl 2 rfl) ?_
    obtain ⟨r88, D89, hq87, h⟩ := cq_i h
    refine r_cV (st' := [.int r88]) [.int x1] [] hC hw kc_8 hi0 (k_X9_loadKind _ hi0 hq87) mk_X9_loadKind lk_1325 ⟨Nat.le_trans (by decide) hR.1, Nat.le_trans (by decide) hR.2⟩ ⟨Nat.zero_le _, Nat.zero_le _⟩ rfl hl.1 rfl rfl (Nat.le_of_ble_eq_true rfl) dX9_kindOf_95 (fun hP H locs hw => ?_)
    cases h
    exact r_iret hC hw dX9_kindOf_98
  have h := i_no c86 h
  by_cases c90 : y85 = 2
  · have h := i_yes c90 h
    refine lv_tableIn (off := 88) (tgt := 99) hx hb dX9_kindOf_11 (by rw [c90]; decide) (by rw [c90]; decide) (by rw [c90] <;> rfl) (by decide) ?_
    refine lv_aload_n hx hb dX9_kindOf_99 rfl (lv_at hl 1 rfl) ?_
    obtain ⟨o91, ho94, h⟩ := rq_i h
    refine r_getR hC hw kc_8 hi0 1 rfl lk_1070 dX9_kindOf_100 rfl ho94 (fun a92 hi93 => ?_)
    refine lv_iload_n hx hb dX9_kindOf_103 rfl (lv_at hl 2 rfl) ?_
    obtain ⟨hn95, h⟩ := ix_i h
    refine r_iald hC hw hi93 hn95 dX9_kindOf_104 ?_
    refine lv_bipush (v := (-25)) hx hb dX9_kindOf_105 (by decide) ?_
    refine lv_iand hx hb dX9_kindOf_107 ?_
    refine lv_bipush (v := 98) hx hb dX9_kindOf_108 (by decide) ?_
    refine lv_icmp_ne (tgt := 138) hx hb dX9_kindOf_110 (by decide) (fun c96 => ?_) (fun c96 => ?_)
    · have h := i_no c96 h
      refine lv_iconst (v := 0) hx hb dX9_kindOf_138 (by decide) ?_
      cases h
      exact r_iret hC hw dX9_kindOf_139
    · have h := i_yes c96 h
      refine lv_aload_n hx hb dX9_kindOf_113 rfl (lv_at hl 1 rfl) ?_
      obtain ⟨o97, ho100, h⟩ := rq_i h
      refine r_getR hC hw kc_8 hi0 3 rfl lk_1072 dX9_kindOf_114 rfl ho100 (fun a98 hi99 => ?_)
      refine lv_iload_n hx hb dX9_kindOf_117 rfl (lv_at hl 2 rfl) ?_
      obtain ⟨hn101, h⟩ := ix_i h
      refine r_iald hC hw hi99 hn101 dX9_kindOf_118 ?_
      refine lv_if_ne (tgt := 138) hx hb dX9_kindOf_119 (by decide) (fun c102 => ?_) (fun c102 => ?_)
      · have h := i_no c102 h
        refine lv_iconst (v := 0) hx hb dX9_kindOf_138 (by decide) ?_
        cases h
        exact r_iret hC hw dX9_kindOf_139
      · have h := i_yes c102 h
        refine lv_aload_n hx hb dX9_kindOf_122 rfl (lv_at hl 1 rfl) ?_
        obtain ⟨o103, ho106, h⟩ := rq_i h
        refine r_getR hC hw kc_8 hi0 2 rfl lk_1071 dX9_kindOf_123 rfl ho106 (fun a104 hi105 => ?_)
        refine lv_iload_n hx hb dX9_kindOf_126 rfl (lv_at hl 2 rfl) ?_
        obtain ⟨hn107, h⟩ := ix_i h
        refine r_iald hC hw hi105 hn107 dX9_kindOf_127 ?_
        refine lv_bipush (v := 11) hx hb dX9_kindOf_128 (by decide) ?_
        refine lv_icmp_ge (tgt := 138) hx hb dX9_kindOf_130 (by decide) (fun c108 => ?_) (fun c108 => ?_)
        · have h := i_yes c108 h
          refine lv_iconst (v := 0) hx hb dX9_kindOf_138 (by decide) ?_
          cases h
          exact r_iret hC hw dX9_kindOf_139
        · have h := i_no c108 h
          refine lv_bipush (v := 8) hx hb dX9_kindOf_133 (by decide) ?_
          refine lv_goto (tgt := 139) hx hb dX9_kindOf_135 (by decide) ?_
          cases h
          exact r_iret hC hw dX9_kindOf_139
  have h := i_no c90 h
  by_cases c109 : y85 = 3
  · have h := i_yes c109 h
    refine lv_tableIn (off := 129) (tgt := 140) hx hb dX9_kindOf_11 (by rw [c109]; decide) (by rw [c109]; decide) (by rw [c109] <;> rfl) (by decide) ?_
    refine lv_aload_n hx hb dX9_kindOf_140 rfl (lv_at hl 1 rfl) ?_
    refine lv_iload_n hx hb dX9_kindOf_141 rfl (lv_at hl 2 rfl) ?_
    obtain ⟨r111, D112, hq110, h⟩ := cq_i h
    refine r_cV (st' := [.int r111]) [.int x1] [] hC hw kc_8 hi0 (k_X9_putKind _ hi0 hq110) mk_X9_putKind lk_1329 ⟨Nat.le_trans (by decide) hR.1, Nat.le_trans (by decide) hR.2⟩ ⟨Nat.zero_le _, Nat.zero_le _⟩ rfl hl.1 rfl rfl (Nat.le_of_ble_eq_true rfl) dX9_kindOf_142 (fun hP H locs hw => ?_)
    cases h
    exact r_iret hC hw dX9_kindOf_145
  have h := i_no c109 h
  by_cases c113 : y85 = 4
  · have h := i_yes c113 h
    refine lv_tableIn (off := 41) (tgt := 52) hx hb dX9_kindOf_11 (by rw [c113]; decide) (by rw [c113]; decide) (by rw [c113] <;> rfl) (by decide) ?_
    exact w_X9_kindOf_52 hC hR o0 a0 x1 y85 _ _ _ _ hi0 hw (lv_sub hl [1, 2, 0] rfl) h
  have h := i_no c113 h
  by_cases c114 : y85 = 5
  · have h := i_yes c114 h
    refine lv_tableIn (off := 66) (tgt := 77) hx hb dX9_kindOf_11 (by rw [c114]; decide) (by rw [c114]; decide) (by rw [c114] <;> rfl) (by decide) ?_
    exact w_X9_kindOf_77 hC hR o0 a0 x1 y85 _ _ _ _ hi0 hw (lv_sub hl [1, 2, 0] rfl) h
  have h := i_no c114 h
  by_cases c115 : y85 = 6
  · have h := i_yes c115 h
    refine lv_tableIn (off := 66) (tgt := 77) hx hb dX9_kindOf_11 (by rw [c115]; decide) (by rw [c115]; decide) (by rw [c115] <;> rfl) (by decide) ?_
    exact w_X9_kindOf_77 hC hR o0 a0 x1 y85 _ _ _ _ hi0 hw (lv_sub hl [1, 2, 0] rfl) h
  have h := i_no c115 h
  by_cases c116 : y85 = 7
  · have h := i_yes c116 h
    refine lv_tableIn (off := 41) (tgt := 52) hx hb dX9_kindOf_11 (by rw [c116]; decide) (by rw [c116]; decide) (by rw [c116] <;> rfl) (by decide) ?_
    exact w_X9_kindOf_52 hC hR o0 a0 x1 y85 _ _ _ _ hi0 hw (lv_sub hl [1, 2, 0] rfl) h
  have h := i_no c116 h
  refine lv_tableOut (tgt := 146) hx hb dX9_kindOf_11 (by have nc86 := lv_neT c86 (a := 1) rfl; have nc90 := lv_neT c90 (a := 2) rfl; have nc109 := lv_neT c109 (a := 3) rfl; have nc113 := lv_neT c113 (a := 4) rfl; have nc114 := lv_neT c114 (a := 5) rfl; have nc115 := lv_neT c115 (a := 6) rfl; have nc116 := lv_neT c116 (a := 7) rfl; omega) (by decide) ?_
  refine lv_aload_n hx hb dX9_kindOf_146 rfl (lv_at hl 1 rfl) ?_
  obtain ⟨o117, ho120, h⟩ := rq_i h
  refine r_getR hC hw kc_8 hi0 1 rfl lk_1070 dX9_kindOf_147 rfl ho120 (fun a118 hi119 => ?_)
  refine lv_iload_n hx hb dX9_kindOf_150 rfl (lv_at hl 2 rfl) ?_
  obtain ⟨hn121, h⟩ := ix_i h
  refine r_iald hC hw hi119 hn121 dX9_kindOf_151 ?_
  refine lv_bipush (v := 24) hx hb dX9_kindOf_152 (by decide) ?_
  refine lv_icmp_ne (tgt := 192) hx hb dX9_kindOf_154 (by decide) (fun c122 => ?_) (fun c122 => ?_)
  · have h := i_no c122 h
    refine lv_iconst (v := 0) hx hb dX9_kindOf_192 (by decide) ?_
    cases h
    exact r_iret hC hw dX9_kindOf_193
  · have h := i_yes c122 h
    refine lv_aload_n hx hb dX9_kindOf_157 rfl (lv_at hl 1 rfl) ?_
    obtain ⟨o123, ho126, h⟩ := rq_i h
    refine r_getR hC hw kc_8 hi0 3 rfl lk_1072 dX9_kindOf_158 rfl ho126 (fun a124 hi125 => ?_)
    refine lv_iload_n hx hb dX9_kindOf_161 rfl (lv_at hl 2 rfl) ?_
    obtain ⟨hn127, h⟩ := ix_i h
    refine r_iald hC hw hi125 hn127 dX9_kindOf_162 ?_
    refine lv_iconst (v := 2) hx hb dX9_kindOf_163 (by decide) ?_
    refine lv_icmp_ge (tgt := 192) hx hb dX9_kindOf_164 (by decide) (fun c128 => ?_) (fun c128 => ?_)
    · have h := i_yes c128 h
      refine lv_iconst (v := 0) hx hb dX9_kindOf_192 (by decide) ?_
      cases h
      exact r_iret hC hw dX9_kindOf_193
    · have h := i_no c128 h
      refine lv_aload_n hx hb dX9_kindOf_167 rfl (lv_at hl 1 rfl) ?_
      obtain ⟨o129, ho132, h⟩ := rq_i h
      refine r_getR hC hw kc_8 hi0 2 rfl lk_1071 dX9_kindOf_168 rfl ho132 (fun a130 hi131 => ?_)
      refine lv_iload_n hx hb dX9_kindOf_171 rfl (lv_at hl 2 rfl) ?_
      obtain ⟨hn133, h⟩ := ix_i h
      refine r_iald hC hw hi131 hn133 dX9_kindOf_172 ?_
      refine lv_bipush (v := 10) hx hb dX9_kindOf_173 (by decide) ?_
      refine lv_icmp_ge (tgt := 192) hx hb dX9_kindOf_175 (by decide) (fun c134 => ?_) (fun c134 => ?_)
      · have h := i_yes c134 h
        refine lv_iconst (v := 0) hx hb dX9_kindOf_192 (by decide) ?_
        cases h
        exact r_iret hC hw dX9_kindOf_193
      · have h := i_no c134 h
        refine lv_aload_n hx hb dX9_kindOf_178 rfl (lv_at hl 1 rfl) ?_
        obtain ⟨o135, ho138, h⟩ := rq_i h
        refine r_getR hC hw kc_8 hi0 4 rfl lk_1073 dX9_kindOf_179 rfl ho138 (fun a136 hi137 => ?_)
        refine lv_iload_n hx hb dX9_kindOf_182 rfl (lv_at hl 2 rfl) ?_
        obtain ⟨hn139, h⟩ := ix_i h
        refine r_iald hC hw hi137 hn139 dX9_kindOf_183 ?_
        refine lv_if_ne (tgt := 192) hx hb dX9_kindOf_184 (by decide) (fun c140 => ?_) (fun c140 => ?_)
        · have h := i_no c140 h
          refine lv_iconst (v := 0) hx hb dX9_kindOf_192 (by decide) ?_
          cases h
          exact r_iret hC hw dX9_kindOf_193
        · have h := i_yes c140 h
          refine lv_bipush (v := 11) hx hb dX9_kindOf_187 (by decide) ?_
          refine lv_goto (tgt := 193) hx hb dX9_kindOf_189 (by decide) ?_
          cases h
          exact r_iret hC hw dX9_kindOf_193
set_option maxHeartbeats 4000000 in
set_option maxRecDepth 100000 in
theorem k_X9_kindOf {l : Launch} {G : va_G} {cA : Nat → ClassId} {S : sh} {D D' : dt} {ad : Nat → Nat} (sz : Nat) {o0 a0 : Nat} {x1 : Int32} {r : Int32} (hi0 : Is S ad o0 a0 8) (h : f_X9_kindOf S o0 x1 D = some (r, D')) : Co l yX9_kindOf (Cond.code yX9_kindOf cX9_kindOf 3 (some .int) :: tb0) 3 69 [.ref a0, .int x1] G cA S D ad sz (some (.int r)) True D' := by
  refine Met.ofW (cc := cX9_kindOf) (maxL := 3) (ret := (some .int)) (by decide) rfl ?_
  intro p e s m args below meth c s₁ B hml hv
  obtain ⟨rfl, hsz, hP, hK, hD0, hT, hX⟩ := hv
  subst hsz
  have hts := atoms_spec (ws := Cond.code yX9_kindOf cX9_kindOf 3 (some .int) :: tb0) B.pre
  have hC : Cx RX9 cX9_kindOf 3 (some .int) p s m _ meth c := ⟨B.exec, B.bytes, hml, findClass_of_methodNamed B.named, fun w q => hts w (List.mem_cons_of_mem _ q), B.returns, B.notSynchronized⟩
  have hw := Wd.entry hP hK hD0 hT hX
  have hl := lv_entry ([.ref a0, .int x1]) (n := 3) (Nat.le_of_ble_eq_true rfl)
  rw [lg_entry_eq]
  exact w_X9_kindOf_0 hC ⟨Nat.le_refl _, Nat.le_refl _⟩ o0 a0 x1 D _ _ _ hi0 hw hl h
set_option maxHeartbeats 4000000 in
set_option maxRecDepth 100000 in
theorem w_X9_widthOf_0 {r : Int32} {D' : dt} (hC : Cx RX9 cX9_widthOf 3 (some .int) p s m args meth c) (hR : 0 ≤ R.frames ∧ 0 ≤ R.locals) : ∀ (o0 a0 : Nat) (x1 : Int32) (D : dt) (H : Heap) (locs : List Loc) (ls : Array Slot), Is S ad o0 a0 8 → Wd G cA S D ad A s H locs → lv_has ls 3 [(0, .ref a0), (1, .int x1)] → f_X9_widthOf S o0 x1 D = some (r, D') → W p l e R s m args below meth c H locs 0 0 (MQ below (Qn (some (.int r)) True (wpost G cA S D' ad A) A) args s 0 0 A) (F0 m 0 ls []) := by
  obtain ⟨hx, hb, -⟩ := id hC
  intro o0 a0 x1 D H locs ls hi0 hw hl h
  unfold f_X9_widthOf at h
  refine lv_aload_n hx hb dX9_widthOf_0 rfl (lv_at hl 0 rfl) ?_
  obtain ⟨o10, ho13, h⟩ := rq_i h
  refine r_getR hC hw kc_8 hi0 1 rfl lk_1070 dX9_widthOf_1 rfl ho13 (fun a11 hi12 => ?_)
  refine lv_iload_n hx hb dX9_widthOf_4 rfl (lv_at hl 1 rfl) ?_
  obtain ⟨hn14, h⟩ := ix_i h
  refine r_iald hC hw hi12 hn14 dX9_widthOf_5 ?_
  refine lv_bipush (v := 24) hx hb dX9_widthOf_6 (by decide) ?_
  refine lv_iand hx hb dX9_widthOf_8 ?_
  refine lv_topi (fun y15 ey15 => ?_)
  have h := nm_i h y15 ey15
  refine lv_istore_n (lv' := [(2, .int y15), (0, .ref a0), (1, .int x1)]) hx hb dX9_widthOf_9 rfl hl (by decide) rfl (fun ls hl => ?_)
  refine lv_iload_n hx hb dX9_widthOf_10 rfl (lv_at hl 0 rfl) ?_
  refine lv_if_ne (tgt := 18) hx hb dX9_widthOf_11 (by decide) (fun c16 => ?_) (fun c16 => ?_)
  · have h := i_no c16 h
    refine lv_iload_n hx hb dX9_widthOf_18 rfl (lv_at hl 0 rfl) ?_
    refine lv_bipush (v := 8) hx hb dX9_widthOf_19 (by decide) ?_
    refine lv_icmp_ne (tgt := 28) hx hb dX9_widthOf_21 (by decide) (fun c17 => ?_) (fun c17 => ?_)
    · have h := i_no c17 h
      refine lv_iload_n hx hb dX9_widthOf_28 rfl (lv_at hl 0 rfl) ?_
      refine lv_bipush (v := 16) hx hb dX9_widthOf_29 (by decide) ?_
      refine lv_icmp_ne (tgt := 38) hx hb dX9_widthOf_31 (by decide) (fun c18 => ?_) (fun c18 => ?_)
      · have h := i_no c18 h
        refine lv_bipush (v := 8) hx hb dX9_widthOf_38 (by decide) ?_
        cases h
        exact r_iret hC hw dX9_widthOf_40
      · have h := i_yes c18 h
        refine lv_iconst (v := 1) hx hb dX9_widthOf_34 (by decide) ?_
        refine lv_goto (tgt := 40) hx hb dX9_widthOf_35 (by decide) ?_
        cases h
        exact r_iret hC hw dX9_widthOf_40
    · have h := i_yes c17 h
      refine lv_iconst (v := 2) hx hb dX9_widthOf_24 (by decide) ?_
      refine lv_goto (tgt := 40) hx hb dX9_widthOf_25 (by decide) ?_
      cases h
      exact r_iret hC hw dX9_widthOf_40
  · have h := i_yes c16 h
    refine lv_iconst (v := 4) hx hb dX9_widthOf_14 (by decide) ?_
    refine lv_goto (tgt := 40) hx hb dX9_widthOf_15 (by decide) ?_
    cases h
    exact r_iret hC hw dX9_widthOf_40
set_option maxHeartbeats 4000000 in
set_option maxRecDepth 100000 in
theorem k_X9_widthOf {l : Launch} {G : va_G} {cA : Nat → ClassId} {S : sh} {D D' : dt} {ad : Nat → Nat} (sz : Nat) {o0 a0 : Nat} {x1 : Int32} {r : Int32} (hi0 : Is S ad o0 a0 8) (h : f_X9_widthOf S o0 x1 D = some (r, D')) : Co l yX9_widthOf (Cond.code yX9_widthOf cX9_widthOf 3 (some .int) :: tb0) 0 0 [.ref a0, .int x1] G cA S D ad sz (some (.int r)) True D' := by
  refine Met.ofW (cc := cX9_widthOf) (maxL := 3) (ret := (some .int)) (by decide) rfl ?_
  intro p e s m args below meth c s₁ B hml hv
  obtain ⟨rfl, hsz, hP, hK, hD0, hT, hX⟩ := hv
  subst hsz
  have hts := atoms_spec (ws := Cond.code yX9_widthOf cX9_widthOf 3 (some .int) :: tb0) B.pre
  have hC : Cx RX9 cX9_widthOf 3 (some .int) p s m _ meth c := ⟨B.exec, B.bytes, hml, findClass_of_methodNamed B.named, fun w q => hts w (List.mem_cons_of_mem _ q), B.returns, B.notSynchronized⟩
  have hw := Wd.entry hP hK hD0 hT hX
  have hl := lv_entry ([.ref a0, .int x1]) (n := 3) (Nat.le_of_ble_eq_true rfl)
  rw [lg_entry_eq]
  exact w_X9_widthOf_0 hC ⟨Nat.le_refl _, Nat.le_refl _⟩ o0 a0 x1 D _ _ _ hi0 hw hl h
set_option maxHeartbeats 4000000 in
set_option maxRecDepth 100000 in
theorem w_X9_isSecond_56 {r : Int32} {D' : dt} (hC : Cx RX9 cX9_isSecond 2 (some .boolean) p s m args meth c) (hR : 0 ≤ R.frames ∧ 0 ≤ R.locals) : ∀  (D : dt) (H : Heap) (locs : List Loc) (ls : Array Slot), Wd G cA S D ad A s H locs → lv_has ls 2 [] → f_X9_isSecond_56 S D = some (r, D') → W p l e R s m args below meth c H locs 0 0 (MQ below (Qn (some (.int r)) True (wpost G cA S D' ad A) A) args s 0 0 A) (F0 m 56 ls []) := by
  obtain ⟨hx, hb, -⟩ := id hC
  intro D H locs ls  hw hl h
  unfold f_X9_isSecond_56 at h
  refine lv_iconst (v := 1) hx hb dX9_isSecond_56 (by decide) ?_
  refine lv_goto (tgt := 61) hx hb dX9_isSecond_57 (by decide) ?_
  cases h
  exact r_zret hC hw (Or.inr rfl) dX9_isSecond_61
set_option maxHeartbeats 4000000 in
set_option maxRecDepth 100000 in
theorem w_X9_isSecond_0 {r : Int32} {D' : dt} (hC : Cx RX9 cX9_isSecond 2 (some .boolean) p s m args meth c) (hR : 0 ≤ R.frames ∧ 0 ≤ R.locals) : ∀ (o0 a0 : Nat) (x1 : Int32) (D : dt) (H : Heap) (locs : List Loc) (ls : Array Slot), Is S ad o0 a0 8 → Wd G cA S D ad A s H locs → lv_has ls 2 [(0, .ref a0), (1, .int x1)] → f_X9_isSecond S o0 x1 D = some (r, D') → W p l e R s m args below meth c H locs 0 0 (MQ below (Qn (some (.int r)) True (wpost G cA S D' ad A) A) args s 0 0 A) (F0 m 0 ls []) := by
  obtain ⟨hx, hb, -⟩ := id hC
  intro o0 a0 x1 D H locs ls hi0 hw hl h
  unfold f_X9_isSecond at h
  refine lv_aload_n hx hb dX9_isSecond_0 rfl (lv_at hl 0 rfl) ?_
  obtain ⟨o37, ho40, h⟩ := rq_i h
  refine r_getR hC hw kc_8 hi0 1 rfl lk_1070 dX9_isSecond_1 rfl ho40 (fun a38 hi39 => ?_)
  refine lv_iload_n hx hb dX9_isSecond_4 rfl (lv_at hl 1 rfl) ?_
  obtain ⟨hn41, h⟩ := ix_i h
  refine r_iald hC hw hi39 hn41 dX9_isSecond_5 ?_
  refine lv_if_ne (tgt := 60) hx hb dX9_isSecond_6 (by decide) (fun c42 => ?_) (fun c42 => ?_)
  · have h := i_no c42 h
    refine lv_iconst (v := 0) hx hb dX9_isSecond_60 (by decide) ?_
    cases h
    exact r_zret hC hw (Or.inl rfl) dX9_isSecond_61
  · have h := i_yes c42 h
    refine lv_aload_n hx hb dX9_isSecond_9 rfl (lv_at hl 0 rfl) ?_
    obtain ⟨o43, ho46, h⟩ := rq_i h
    refine r_getR hC hw kc_8 hi0 2 rfl lk_1071 dX9_isSecond_10 rfl ho46 (fun a44 hi45 => ?_)
    refine lv_iload_n hx hb dX9_isSecond_13 rfl (lv_at hl 1 rfl) ?_
    obtain ⟨hn47, h⟩ := ix_i h
    refine r_iald hC hw hi45 hn47 dX9_isSecond_14 ?_
    refine lv_if_ne (tgt := 60) hx hb dX9_isSecond_15 (by decide) (fun c48 => ?_) (fun c48 => ?_)
    · have h := i_no c48 h
      refine lv_iconst (v := 0) hx hb dX9_isSecond_60 (by decide) ?_
      cases h
      exact r_zret hC hw (Or.inl rfl) dX9_isSecond_61
    · have h := i_yes c48 h
      refine lv_aload_n hx hb dX9_isSecond_18 rfl (lv_at hl 0 rfl) ?_
      obtain ⟨o49, ho52, h⟩ := rq_i h
      refine r_getR hC hw kc_8 hi0 3 rfl lk_1072 dX9_isSecond_19 rfl ho52 (fun a50 hi51 => ?_)
      refine lv_iload_n hx hb dX9_isSecond_22 rfl (lv_at hl 1 rfl) ?_
      obtain ⟨hn53, h⟩ := ix_i h
      refine r_iald hC hw hi51 hn53 dX9_isSecond_23 ?_
      refine lv_if_ne (tgt := 60) hx hb dX9_isSecond_24 (by decide) (fun c54 => ?_) (fun c54 => ?_)
      · have h := i_no c54 h
        refine lv_iconst (v := 0) hx hb dX9_isSecond_60 (by decide) ?_
        cases h
        exact r_zret hC hw (Or.inl rfl) dX9_isSecond_61
      · have h := i_yes c54 h
        refine lv_aload_n hx hb dX9_isSecond_27 rfl (lv_at hl 0 rfl) ?_
        obtain ⟨o55, ho58, h⟩ := rq_i h
        refine r_getR hC hw kc_8 hi0 4 rfl lk_1073 dX9_isSecond_28 rfl ho58 (fun a56 hi57 => ?_)
        refine lv_iload_n hx hb dX9_isSecond_31 rfl (lv_at hl 1 rfl) ?_
        obtain ⟨hn59, h⟩ := ix_i h
        refine r_iald hC hw hi57 hn59 dX9_isSecond_32 ?_
        refine lv_if_ne (tgt := 60) hx hb dX9_isSecond_33 (by decide) (fun c60 => ?_) (fun c60 => ?_)
        · have h := i_no c60 h
          refine lv_iconst (v := 0) hx hb dX9_isSecond_60 (by decide) ?_
          cases h
          exact r_zret hC hw (Or.inl rfl) dX9_isSecond_61
        · have h := i_yes c60 h
          refine lv_aload_n hx hb dX9_isSecond_36 rfl (lv_at hl 0 rfl) ?_
          obtain ⟨o61, ho64, h⟩ := rq_i h
          refine r_getR hC hw kc_8 hi0 3 rfl lk_1072 dX9_isSecond_37 rfl ho64 (fun a62 hi63 => ?_)
          refine lv_iload_n hx hb dX9_isSecond_40 rfl (lv_at hl 1 rfl) ?_
          refine lv_iconst (v := 1) hx hb dX9_isSecond_41 (by decide) ?_
          refine lv_isub hx hb dX9_isSecond_42 ?_
          obtain ⟨hn65, h⟩ := ix_i h
          refine r_iald hC hw hi63 hn65 dX9_isSecond_43 ?_
          refine lv_if_eq (tgt := 56) hx hb dX9_isSecond_44 (by decide) (fun c66 => ?_) (fun c66 => ?_)
          · have h := i_yes c66 h
            exact w_X9_isSecond_56 hC hR _ _ _ _ hw (lv_sub hl [] rfl) h
          · have h := i_no c66 h
            refine lv_aload_n hx hb dX9_isSecond_47 rfl (lv_at hl 0 rfl) ?_
            obtain ⟨o67, ho70, h⟩ := rq_i h
            refine r_getR hC hw kc_8 hi0 5 rfl lk_1074 dX9_isSecond_48 rfl ho70 (fun a68 hi69 => ?_)
            refine lv_iload_n hx hb dX9_isSecond_51 rfl (lv_at hl 1 rfl) ?_
            obtain ⟨hn71, h⟩ := ix_i h
            refine r_iald hC hw hi69 hn71 dX9_isSecond_52 ?_
            refine lv_if_ne (tgt := 60) hx hb dX9_isSecond_53 (by decide) (fun c72 => ?_) (fun c72 => ?_)
            · have h := i_no c72 h
              refine lv_iconst (v := 0) hx hb dX9_isSecond_60 (by decide) ?_
              cases h
              exact r_zret hC hw (Or.inl rfl) dX9_isSecond_61
            · have h := i_yes c72 h
              exact w_X9_isSecond_56 hC hR _ _ _ _ hw (lv_sub hl [] rfl) h
set_option maxHeartbeats 4000000 in
set_option maxRecDepth 100000 in
theorem k_X9_isSecond {l : Launch} {G : va_G} {cA : Nat → ClassId} {S : sh} {D D' : dt} {ad : Nat → Nat} (sz : Nat) {o0 a0 : Nat} {x1 : Int32} {r : Int32} (hi0 : Is S ad o0 a0 8) (h : f_X9_isSecond S o0 x1 D = some (r, D')) : Co l yX9_isSecond (Cond.code yX9_isSecond cX9_isSecond 2 (some .boolean) :: tb0) 0 0 [.ref a0, .int x1] G cA S D ad sz (some (.int r)) True D' := by
  refine Met.ofW (cc := cX9_isSecond) (maxL := 2) (ret := (some .boolean)) (by decide) rfl ?_
  intro p e s m args below meth c s₁ B hml hv
  obtain ⟨rfl, hsz, hP, hK, hD0, hT, hX⟩ := hv
  subst hsz
  have hts := atoms_spec (ws := Cond.code yX9_isSecond cX9_isSecond 2 (some .boolean) :: tb0) B.pre
  have hC : Cx RX9 cX9_isSecond 2 (some .boolean) p s m _ meth c := ⟨B.exec, B.bytes, hml, findClass_of_methodNamed B.named, fun w q => hts w (List.mem_cons_of_mem _ q), B.returns, B.notSynchronized⟩
  have hw := Wd.entry hP hK hD0 hT hX
  have hl := lv_entry ([.ref a0, .int x1]) (n := 2) (Nat.le_of_ble_eq_true rfl)
  rw [lg_entry_eq]
  exact w_X9_isSecond_0 hC ⟨Nat.le_refl _, Nat.le_refl _⟩ o0 a0 x1 D _ _ _ hi0 hw hl h
set_option maxHeartbeats 4000000 in
set_option maxRecDepth 100000 in
theorem w_X9_over_0 {r : Int64} (hC : Cx RX9 cX9_over 6 (some .long) p s m args meth c) (hR : 1 ≤ R.frames ∧ 23 ≤ R.locals) : ∀ (x0 : Int64) (x2 : Int64) (H : Heap) (locs : List Loc) (ls : Array Slot), Wd G cA S D ad A s H locs → lv_has ls 6 [(0, .long x0), (2, .long x2)] → f_X9_over x0 x2 = some r → W p l e R s m args below meth c H locs 0 0 (MQ below (Qn (some (.long r)) True (wpost G cA S D ad A) A) args s 0 0 A) (F0 m 0 ls []) := by
  obtain ⟨hx, hb, -⟩ := id hC
  intro x0 x2 H locs ls hw hl h
  unfold f_X9_over at h
  refine lv_lload_n hx hb dX9_over_0 rfl (lv_at hl 1 rfl) ?_
  refine lv_lconst (v := 0) hx hb dX9_over_1 (by decide) ?_
  refine W.lcmp hx hb dX9_over_2 ?_
  refine lv_if_ge (tgt := 20) hx hb dX9_over_3 (by decide) (fun c10 => ?_) (fun c10 => ?_)
  · have h := i_yes c10 h
    refine lv_lload_n hx hb dX9_over_20 rfl (lv_at hl 0 rfl) ?_
    refine lv_iconst (v := 1) hx hb dX9_over_21 (by decide) ?_
    refine lv_lushr (v := j_lushr x0 (1 : Int32)) hx hb dX9_over_22 rfl ?_
    refine lv_lload_n hx hb dX9_over_23 rfl (lv_at hl 1 rfl) ?_
    obtain ⟨hz11, h⟩ := ck_i h
    refine lv_ldiv hx hb dX9_over_24 hz11 ?_
    refine lv_iconst (v := 1) hx hb dX9_over_25 (by decide) ?_
    refine lv_lshl (v := j_lshl ((j_lushr x0 (1 : Int32)) / x2) (1 : Int32)) hx hb dX9_over_26 rfl ?_
    refine lv_topl (fun y12 ey12 => ?_)
    have h := nm_i h y12 ey12
    refine lv_lstore (lv' := [(4, .long y12), (0, .long x0), (2, .long x2)]) hx hb dX9_over_27 hl (by decide) rfl (fun ls hl => ?_)
    refine lv_lload_n hx hb dX9_over_29 rfl (lv_at hl 1 rfl) ?_
    refine lv_lload hx hb dX9_over_30 (lv_at hl 0 rfl) ?_
    refine lv_lload_n hx hb dX9_over_32 rfl (lv_at hl 2 rfl) ?_
    refine lv_lmul hx hb dX9_over_33 ?_
    refine lv_lsub hx hb dX9_over_34 ?_
    refine lv_lload_n hx hb dX9_over_35 rfl (lv_at hl 2 rfl) ?_
    obtain ⟨r14, hq13, h⟩ := pq_i h
    refine r_cS (st' := [.int r14]) [.long (x0 - (y12 * x2)), .long x2] [] hC hw (k_X9_isBelow _ hq13) mk_X9_isBelow lk_1355 ⟨Nat.le_trans (by decide) hR.1, Nat.le_trans (by decide) hR.2⟩ ⟨Nat.zero_le _, Nat.zero_le _⟩ rfl hl.1 rfl rfl (Nat.le_of_ble_eq_true rfl) dX9_over_36 (fun hP H locs hw => ?_)
    refine lv_if_eq (tgt := 47) hx hb dX9_over_39 (by decide) (fun c15 => ?_) (fun c15 => ?_)
    · have h := i_yes c15 h
      refine lv_lload hx hb dX9_over_47 (lv_at hl 0 rfl) ?_
      refine lv_lconst (v := 1) hx hb dX9_over_49 (by decide) ?_
      refine lv_ladd hx hb dX9_over_50 ?_
      cases h
      exact r_lret hC hw dX9_over_51
    · have h := i_no c15 h
      refine lv_lload hx hb dX9_over_42 (lv_at hl 0 rfl) ?_
      refine lv_goto (tgt := 51) hx hb dX9_over_44 (by decide) ?_
      cases h
      exact r_lret hC hw dX9_over_51
  · have h := i_no c10 h
    refine lv_lload_n hx hb dX9_over_6 rfl (lv_at hl 0 rfl) ?_
    refine lv_lload_n hx hb dX9_over_7 rfl (lv_at hl 1 rfl) ?_
    obtain ⟨r17, hq16, h⟩ := pq_i h
    refine r_cS (st' := [.int r17]) [.long x0, .long x2] [] hC hw (k_X9_isBelow _ hq16) mk_X9_isBelow lk_1355 ⟨Nat.le_trans (by decide) hR.1, Nat.le_trans (by decide) hR.2⟩ ⟨Nat.zero_le _, Nat.zero_le _⟩ rfl hl.1 rfl rfl (Nat.le_of_ble_eq_true rfl) dX9_over_8 (fun hP H locs hw => ?_)
    refine lv_if_eq (tgt := 18) hx hb dX9_over_11 (by decide) (fun c18 => ?_) (fun c18 => ?_)
    · have h := i_yes c18 h
      refine lv_lconst (v := 1) hx hb dX9_over_18 (by decide) ?_
      cases h
      exact r_lret hC hw dX9_over_19
    · have h := i_no c18 h
      refine lv_lconst (v := 0) hx hb dX9_over_14 (by decide) ?_
      refine lv_goto (tgt := 19) hx hb dX9_over_15 (by decide) ?_
      cases h
      exact r_lret hC hw dX9_over_19
set_option maxHeartbeats 4000000 in
set_option maxRecDepth 100000 in
theorem k_X9_over {l : Launch} {G : va_G} {cA : Nat → ClassId} {S : sh} {D : dt} {ad : Nat → Nat} (sz : Nat) {x0 : Int64} {x2 : Int64} {r : Int64}  (h : f_X9_over x0 x2 = some r) : Co l yX9_over (Cond.code yX9_over cX9_over 6 (some .long) :: tb0) 1 23 [.long x0, .long x2] G cA S D ad sz (some (.long r)) True D := by
  refine Met.ofW (cc := cX9_over) (maxL := 6) (ret := (some .long)) (by decide) rfl ?_
  intro p e s m args below meth c s₁ B hml hv
  obtain ⟨rfl, hsz, hP, hK, hD0, hT, hX⟩ := hv
  subst hsz
  have hts := atoms_spec (ws := Cond.code yX9_over cX9_over 6 (some .long) :: tb0) B.pre
  have hC : Cx RX9 cX9_over 6 (some .long) p s m _ meth c := ⟨B.exec, B.bytes, hml, findClass_of_methodNamed B.named, fun w q => hts w (List.mem_cons_of_mem _ q), B.returns, B.notSynchronized⟩
  have hw := Wd.entry hP hK hD0 hT hX
  have hl := lv_entry ([.long x0, .long x2]) (n := 6) (Nat.le_of_ble_eq_true rfl)
  rw [lg_entry_eq]
  exact w_X9_over_0 hC ⟨Nat.le_refl _, Nat.le_refl _⟩ x0 x2 _ _ _ hw hl h
set_option maxHeartbeats 4000000 in
set_option maxRecDepth 100000 in
theorem w_X9_signed_0 {r : Int64} (hC : Cx RX9 cX9_signed 3 (some .long) p s m args meth c) (hR : 0 ≤ R.frames ∧ 0 ≤ R.locals) : ∀ (x0 : Int64) (x2 : Int32) (H : Heap) (locs : List Loc) (ls : Array Slot), Wd G cA S D ad A s H locs → lv_has ls 3 [(0, .long x0), (2, .int x2)] → f_X9_signed x0 x2 = some r → W p l e R s m args below meth c H locs 0 0 (MQ below (Qn (some (.long r)) True (wpost G cA S D ad A) A) args s 0 0 A) (F0 m 0 ls []) := by
  obtain ⟨hx, hb, -⟩ := id hC
  intro x0 x2 H locs ls hw hl h
  unfold f_X9_signed at h
  refine lv_lload_n hx hb dX9_signed_0 rfl (lv_at hl 0 rfl) ?_
  refine lv_bipush (v := 64) hx hb dX9_signed_1 (by decide) ?_
  refine lv_iload_n hx hb dX9_signed_3 rfl (lv_at hl 1 rfl) ?_
  refine lv_isub hx hb dX9_signed_4 ?_
  refine lv_lshl (v := j_lshl x0 ((64 : Int32) - x2)) hx hb dX9_signed_5 rfl ?_
  refine lv_bipush (v := 64) hx hb dX9_signed_6 (by decide) ?_
  refine lv_iload_n hx hb dX9_signed_8 rfl (lv_at hl 1 rfl) ?_
  refine lv_isub hx hb dX9_signed_9 ?_
  refine lv_lshr (v := j_lshr (j_lshl x0 ((64 : Int32) - x2)) ((64 : Int32) - x2)) hx hb dX9_signed_10 rfl ?_
  cases h
  exact r_lret hC hw dX9_signed_11
set_option maxHeartbeats 4000000 in
set_option maxRecDepth 100000 in
theorem k_X9_signed {l : Launch} {G : va_G} {cA : Nat → ClassId} {S : sh} {D : dt} {ad : Nat → Nat} (sz : Nat) {x0 : Int64} {x2 : Int32} {r : Int64}  (h : f_X9_signed x0 x2 = some r) : Co l yX9_signed (Cond.code yX9_signed cX9_signed 3 (some .long) :: tb0) 0 0 [.long x0, .int x2] G cA S D ad sz (some (.long r)) True D := by
  refine Met.ofW (cc := cX9_signed) (maxL := 3) (ret := (some .long)) (by decide) rfl ?_
  intro p e s m args below meth c s₁ B hml hv
  obtain ⟨rfl, hsz, hP, hK, hD0, hT, hX⟩ := hv
  subst hsz
  have hts := atoms_spec (ws := Cond.code yX9_signed cX9_signed 3 (some .long) :: tb0) B.pre
  have hC : Cx RX9 cX9_signed 3 (some .long) p s m _ meth c := ⟨B.exec, B.bytes, hml, findClass_of_methodNamed B.named, fun w q => hts w (List.mem_cons_of_mem _ q), B.returns, B.notSynchronized⟩
  have hw := Wd.entry hP hK hD0 hT hX
  have hl := lv_entry ([.long x0, .int x2]) (n := 3) (Nat.le_of_ble_eq_true rfl)
  rw [lg_entry_eq]
  exact w_X9_signed_0 hC ⟨Nat.le_refl _, Nat.le_refl _⟩ x0 x2 _ _ _ hw hl h
set_option maxHeartbeats 4000000 in
set_option maxRecDepth 100000 in
theorem w_X9_turned_5 {r : Int64} (hC : Cx RX9 cX9_turned 6 (some .long) p s m args meth c) (hR : 0 ≤ R.frames ∧ 0 ≤ R.locals) : ∀ (n : Nat), ∀ (x0 : Int64) (x2 : Int32) (x3 : Int64) (x5 : Int32) (H : Heap) (locs : List Loc) (ls : Array Slot), Wd G cA S D ad A s H locs → lv_has ls 6 [(0, .long x0), (2, .int x2), (3, .long x3), (5, .int x5)] → f_X9_turned_5 n x0 x2 x3 x5 = some r → W p l e R s m args below meth c H locs 0 0 (MQ below (Qn (some (.long r)) True (wpost G cA S D ad A) A) args s 0 0 A) (F0 m 5 ls []) := by
  obtain ⟨hx, hb, -⟩ := id hC
  intro n
  induction n with
  | zero =>
    intro x0 x2 x3 x5 H locs ls hw hl h
    rw [f_X9_turned_5.eq_1] at h
    cases h
  | succ n ih =>
    intro x0 x2 x3 x5 H locs ls hw hl h
    rw [f_X9_turned_5.eq_2] at h
    refine lv_iload hx hb dX9_turned_5 (lv_at hl 3 rfl) ?_
    refine lv_iload_n hx hb dX9_turned_7 rfl (lv_at hl 1 rfl) ?_
    refine lv_icmp_ge (tgt := 31) hx hb dX9_turned_8 (by decide) (fun c6 => ?_) (fun c6 => ?_)
    · have h := i_yes c6 h
      refine lv_lload_n hx hb dX9_turned_31 rfl (lv_at hl 2 rfl) ?_
      cases h
      exact r_lret hC hw dX9_turned_32
    · have h := i_no c6 h
      refine lv_lload_n hx hb dX9_turned_11 rfl (lv_at hl 2 rfl) ?_
      refine lv_bipush (v := 8) hx hb dX9_turned_12 (by decide) ?_
      refine lv_lshl (v := j_lshl x3 (8 : Int32)) hx hb dX9_turned_14 rfl ?_
      refine lv_lload_n hx hb dX9_turned_15 rfl (lv_at hl 0 rfl) ?_
      refine lv_iload hx hb dX9_turned_16 (lv_at hl 3 rfl) ?_
      refine lv_lshr (v := j_lshr x0 x5) hx hb dX9_turned_18 rfl ?_
      refine lv_ldc2 (v := 255) hx hb hC.2.2.2.1 (hC.2.2.2.2.1 _ lk_1239) dX9_turned_19 ?_
      refine lv_land hx hb dX9_turned_22 ?_
      refine lv_lor hx hb dX9_turned_23 ?_
      refine lv_topl (fun y7 ey7 => ?_)
      have h := nm_i h y7 ey7
      refine lv_lstore_n (lv' := [(3, .long y7), (0, .long x0), (2, .int x2), (5, .int x5)]) hx hb dX9_turned_24 rfl hl (by decide) rfl (fun ls hl => ?_)
      obtain ⟨y8, ey8⟩ : ∃ z : Int32, z = x5 + 8 := ⟨_, rfl⟩
      have h := nm_i h y8 ey8
      refine lv_iinc (v := y8) (lv' := [(5, .int y8), (3, .long y7), (0, .long x0), (2, .int x2)]) hx hb dX9_turned_25 hl (k := 3) rfl (by rw [ey8]; rfl) (by decide) rfl (fun ls hl => ?_)
      refine lv_goto (tgt := 5) hx hb dX9_turned_28 (by decide) ?_
      exact ih x0 x2 y7 y8 _ _ _ hw (lv_sub hl [2, 3, 1, 0] rfl) h
set_option maxHeartbeats 4000000 in
set_option maxRecDepth 100000 in
theorem w_X9_turned_0 {r : Int64} (hC : Cx RX9 cX9_turned 6 (some .long) p s m args meth c) (hR : 0 ≤ R.frames ∧ 0 ≤ R.locals) : ∀ (x0 : Int64) (x2 : Int32) (H : Heap) (locs : List Loc) (ls : Array Slot), Wd G cA S D ad A s H locs → lv_has ls 6 [(0, .long x0), (2, .int x2)] → f_X9_turned x0 x2 = some r → W p l e R s m args below meth c H locs 0 0 (MQ below (Qn (some (.long r)) True (wpost G cA S D ad A) A) args s 0 0 A) (F0 m 0 ls []) := by
  obtain ⟨hx, hb, -⟩ := id hC
  intro x0 x2 H locs ls hw hl h
  unfold f_X9_turned at h
  refine lv_lconst (v := 0) hx hb dX9_turned_0 (by decide) ?_
  refine lv_topl (fun y9 ey9 => ?_)
  have h := nm_i h y9 ey9
  refine lv_lstore_n (lv' := [(3, .long y9), (0, .long x0), (2, .int x2)]) hx hb dX9_turned_1 rfl hl (by decide) rfl (fun ls hl => ?_)
  refine lv_iconst (v := 0) hx hb dX9_turned_2 (by decide) ?_
  refine lv_topi (fun y10 ey10 => ?_)
  have h := nm_i h y10 ey10
  refine lv_istore (lv' := [(5, .int y10), (3, .long y9), (0, .long x0), (2, .int x2)]) hx hb dX9_turned_3 hl (by decide) rfl (fun ls hl => ?_)
  exact w_X9_turned_5 hC hR LF x0 x2 y9 y10 _ _ _ hw (lv_sub hl [2, 3, 1, 0] rfl) h
set_option maxHeartbeats 4000000 in
set_option maxRecDepth 100000 in
theorem k_X9_turned {l : Launch} {G : va_G} {cA : Nat → ClassId} {S : sh} {D : dt} {ad : Nat → Nat} (sz : Nat) {x0 : Int64} {x2 : Int32} {r : Int64}  (h : f_X9_turned x0 x2 = some r) : Co l yX9_turned (Cond.code yX9_turned cX9_turned 6 (some .long) :: tb0) 0 0 [.long x0, .int x2] G cA S D ad sz (some (.long r)) True D := by
  refine Met.ofW (cc := cX9_turned) (maxL := 6) (ret := (some .long)) (by decide) rfl ?_
  intro p e s m args below meth c s₁ B hml hv
  obtain ⟨rfl, hsz, hP, hK, hD0, hT, hX⟩ := hv
  subst hsz
  have hts := atoms_spec (ws := Cond.code yX9_turned cX9_turned 6 (some .long) :: tb0) B.pre
  have hC : Cx RX9 cX9_turned 6 (some .long) p s m _ meth c := ⟨B.exec, B.bytes, hml, findClass_of_methodNamed B.named, fun w q => hts w (List.mem_cons_of_mem _ q), B.returns, B.notSynchronized⟩
  have hw := Wd.entry hP hK hD0 hT hX
  have hl := lv_entry ([.long x0, .int x2]) (n := 6) (Nat.le_of_ble_eq_true rfl)
  rw [lg_entry_eq]
  exact w_X9_turned_0 hC ⟨Nat.le_refl _, Nat.le_refl _⟩ x0 x2 _ _ _ hw hl h
set_option maxHeartbeats 4000000 in
set_option maxRecDepth 100000 in
theorem w_X9_divided_77 {r : Int64} (hC : Cx RX9 cX9_divided 11 (some .long) p s m args meth c) (hR : 2 ≤ R.frames ∧ 48 ≤ R.locals) : ∀ (x6 : Int32) (x7 : Int64) (xs0 : Int64) (H : Heap) (locs : List Loc) (ls : Array Slot), Wd G cA S D ad A s H locs → lv_has ls 11 [(6, .int x6), (7, .long x7)] → f_X9_divided_77 x6 x7 xs0 = some r → W p l e R s m args below meth c H locs 0 0 (MQ below (Qn (some (.long r)) True (wpost G cA S D ad A) A) args s 0 0 A) (F0 m 77 ls [.long xs0]) := by
  obtain ⟨hx, hb, -⟩ := id hC
  intro x6 x7 xs0 H locs ls hw hl h
  unfold f_X9_divided_77 at h
  refine lv_lstore (lv' := [(9, .long xs0), (6, .int x6), (7, .long x7)]) hx hb dX9_divided_77 hl (by decide) rfl (fun ls hl => ?_)
  refine lv_lload hx hb dX9_divided_79 (lv_at hl 0 rfl) ?_
  refine lv_ldc2 (v := (-1)) hx hb hC.2.2.2.1 (hC.2.2.2.2.1 _ lk_1362) dX9_divided_81 ?_
  refine W.lcmp hx hb dX9_divided_84 ?_
  refine lv_if_ne (tgt := 101) hx hb dX9_divided_85 (by decide) (fun c20 => ?_) (fun c20 => ?_)
  · have h := i_no c20 h
    refine lv_iload hx hb dX9_divided_101 (lv_at hl 1 rfl) ?_
    refine lv_if_eq (tgt := 114) hx hb dX9_divided_103 (by decide) (fun c21 => ?_) (fun c21 => ?_)
    · have h := i_yes c21 h
      refine lv_lload hx hb dX9_divided_114 (lv_at hl 2 rfl) ?_
      refine lv_lload hx hb dX9_divided_116 (lv_at hl 0 rfl) ?_
      obtain ⟨hz22, h⟩ := ck_i h
      refine lv_ldiv hx hb dX9_divided_118 hz22 ?_
      cases h
      exact r_lret hC hw dX9_divided_119
    · have h := i_no c21 h
      refine lv_lload hx hb dX9_divided_106 (lv_at hl 2 rfl) ?_
      refine lv_lload hx hb dX9_divided_108 (lv_at hl 0 rfl) ?_
      obtain ⟨hz23, h⟩ := ck_i h
      refine lv_lrem hx hb dX9_divided_110 hz23 ?_
      refine lv_goto (tgt := 119) hx hb dX9_divided_111 (by decide) ?_
      cases h
      exact r_lret hC hw dX9_divided_119
  · have h := i_yes c20 h
    refine lv_iload hx hb dX9_divided_88 (lv_at hl 1 rfl) ?_
    refine lv_if_eq (tgt := 97) hx hb dX9_divided_90 (by decide) (fun c24 => ?_) (fun c24 => ?_)
    · have h := i_yes c24 h
      refine lv_lload hx hb dX9_divided_97 (lv_at hl 2 rfl) ?_
      refine lv_lneg hx hb dX9_divided_99 ?_
      cases h
      exact r_lret hC hw dX9_divided_100
    · have h := i_no c24 h
      refine lv_lconst (v := 0) hx hb dX9_divided_93 (by decide) ?_
      refine lv_goto (tgt := 100) hx hb dX9_divided_94 (by decide) ?_
      cases h
      exact r_lret hC hw dX9_divided_100
set_option maxHeartbeats 4000000 in
set_option maxRecDepth 100000 in
theorem w_X9_divided_60 {r : Int64} (hC : Cx RX9 cX9_divided 11 (some .long) p s m args meth c) (hR : 2 ≤ R.frames ∧ 48 ≤ R.locals) : ∀ (x2 : Int64) (x4 : Int32) (x6 : Int32) (xs0 : Int64) (H : Heap) (locs : List Loc) (ls : Array Slot), Wd G cA S D ad A s H locs → lv_has ls 11 [(2, .long x2), (4, .int x4), (6, .int x6)] → f_X9_divided_60 x2 x4 x6 xs0 = some r → W p l e R s m args below meth c H locs 0 0 (MQ below (Qn (some (.long r)) True (wpost G cA S D ad A) A) args s 0 0 A) (F0 m 60 ls [.long xs0]) := by
  obtain ⟨hx, hb, -⟩ := id hC
  intro x2 x4 x6 xs0 H locs ls hw hl h
  unfold f_X9_divided_60 at h
  refine lv_lstore (lv' := [(7, .long xs0), (2, .long x2), (4, .int x4), (6, .int x6)]) hx hb dX9_divided_60 hl (by decide) rfl (fun ls hl => ?_)
  refine lv_iload hx hb dX9_divided_62 (lv_at hl 2 rfl) ?_
  refine lv_if_eq (tgt := 71) hx hb dX9_divided_64 (by decide) (fun c25 => ?_) (fun c25 => ?_)
  · have h := i_yes c25 h
    refine lv_lload_n hx hb dX9_divided_71 rfl (lv_at hl 1 rfl) ?_
    refine lv_bipush (v := 32) hx hb dX9_divided_72 (by decide) ?_
    obtain ⟨r27, hq26, h⟩ := pq_i h
    refine r_cS (st' := [.long r27]) [.long x2, .int (32 : Int32)] [] hC hw (k_X9_signed _ hq26) mk_X9_signed lk_1359 ⟨Nat.le_trans (by decide) hR.1, Nat.le_trans (by decide) hR.2⟩ ⟨Nat.zero_le _, Nat.zero_le _⟩ rfl hl.1 rfl rfl (Nat.le_of_ble_eq_true rfl) dX9_divided_74 (fun hP H locs hw => ?_)
    exact w_X9_divided_77 hC hR x6 xs0 r27 _ _ _ hw (lv_sub hl [3, 0] rfl) h
  · have h := i_no c25 h
    refine lv_lload_n hx hb dX9_divided_67 rfl (lv_at hl 1 rfl) ?_
    refine lv_goto (tgt := 77) hx hb dX9_divided_68 (by decide) ?_
    exact w_X9_divided_77 hC hR x6 xs0 x2 _ _ _ hw (lv_sub hl [3, 0] rfl) h
set_option maxHeartbeats 4000000 in
set_option maxRecDepth 100000 in
theorem w_X9_divided_0 {r : Int64} (hC : Cx RX9 cX9_divided 11 (some .long) p s m args meth c) (hR : 2 ≤ R.frames ∧ 48 ≤ R.locals) : ∀ (x0 : Int64) (x2 : Int64) (x4 : Int32) (x5 : Int32) (x6 : Int32) (H : Heap) (locs : List Loc) (ls : Array Slot), Wd G cA S D ad A s H locs → lv_has ls 11 [(0, .long x0), (2, .long x2), (4, .int x4), (5, .int x5), (6, .int x6)] → f_X9_divided x0 x2 x4 x5 x6 = some r → W p l e R s m args below meth c H locs 0 0 (MQ below (Qn (some (.long r)) True (wpost G cA S D ad A) A) args s 0 0 A) (F0 m 0 ls []) := by
  obtain ⟨hx, hb, -⟩ := id hC
  intro x0 x2 x4 x5 x6 H locs ls hw hl h
  unfold f_X9_divided at h
  refine lv_lload_n hx hb dX9_divided_0 rfl (lv_at hl 1 rfl) ?_
  refine lv_lconst (v := 0) hx hb dX9_divided_1 (by decide) ?_
  refine W.lcmp hx hb dX9_divided_2 ?_
  refine lv_if_ne (tgt := 17) hx hb dX9_divided_3 (by decide) (fun c28 => ?_) (fun c28 => ?_)
  · have h := i_no c28 h
    refine lv_iload hx hb dX9_divided_17 (lv_at hl 3 rfl) ?_
    refine lv_if_ne (tgt := 45) hx hb dX9_divided_19 (by decide) (fun c29 => ?_) (fun c29 => ?_)
    · have h := i_no c29 h
      refine lv_iload hx hb dX9_divided_45 (lv_at hl 2 rfl) ?_
      refine lv_if_eq (tgt := 54) hx hb dX9_divided_47 (by decide) (fun c30 => ?_) (fun c30 => ?_)
      · have h := i_yes c30 h
        refine lv_lload_n hx hb dX9_divided_54 rfl (lv_at hl 0 rfl) ?_
        refine lv_bipush (v := 32) hx hb dX9_divided_55 (by decide) ?_
        obtain ⟨r32, hq31, h⟩ := pq_i h
        refine r_cS (st' := [.long r32]) [.long x0, .int (32 : Int32)] [] hC hw (k_X9_signed _ hq31) mk_X9_signed lk_1359 ⟨Nat.le_trans (by decide) hR.1, Nat.le_trans (by decide) hR.2⟩ ⟨Nat.zero_le _, Nat.zero_le _⟩ rfl hl.1 rfl rfl (Nat.le_of_ble_eq_true rfl) dX9_divided_57 (fun hP H locs hw => ?_)
        exact w_X9_divided_60 hC hR x2 x4 x6 r32 _ _ _ hw (lv_sub hl [1, 2, 4] rfl) h
      · have h := i_no c30 h
        refine lv_lload_n hx hb dX9_divided_50 rfl (lv_at hl 0 rfl) ?_
        refine lv_goto (tgt := 60) hx hb dX9_divided_51 (by decide) ?_
        exact w_X9_divided_60 hC hR x2 x4 x6 x0 _ _ _ hw (lv_sub hl [1, 2, 4] rfl) h
    · have h := i_yes c29 h
      refine lv_iload hx hb dX9_divided_22 (lv_at hl 4 rfl) ?_
      refine lv_if_eq (tgt := 39) hx hb dX9_divided_24 (by decide) (fun c33 => ?_) (fun c33 => ?_)
      · have h := i_yes c33 h
        refine lv_lload_n hx hb dX9_divided_39 rfl (lv_at hl 0 rfl) ?_
        refine lv_lload_n hx hb dX9_divided_40 rfl (lv_at hl 1 rfl) ?_
        obtain ⟨r35, hq34, h⟩ := pq_i h
        refine r_cS (st' := [.long r35]) [.long x0, .long x2] [] hC hw (k_X9_over _ hq34) mk_X9_over lk_1352 ⟨Nat.le_trans (by decide) hR.1, Nat.le_trans (by decide) hR.2⟩ ⟨Nat.zero_le _, Nat.zero_le _⟩ rfl hl.1 rfl rfl (Nat.le_of_ble_eq_true rfl) dX9_divided_41 (fun hP H locs hw => ?_)
        cases h
        exact r_lret hC hw dX9_divided_44
      · have h := i_no c33 h
        refine lv_lload_n hx hb dX9_divided_27 rfl (lv_at hl 0 rfl) ?_
        refine lv_lload_n hx hb dX9_divided_28 rfl (lv_at hl 0 rfl) ?_
        refine lv_lload_n hx hb dX9_divided_29 rfl (lv_at hl 1 rfl) ?_
        obtain ⟨r37, hq36, h⟩ := pq_i h
        refine r_cS (st' := [.long r37, .long x0]) [.long x0, .long x2] [.long x0] hC hw (k_X9_over _ hq36) mk_X9_over lk_1352 ⟨Nat.le_trans (by decide) hR.1, Nat.le_trans (by decide) hR.2⟩ ⟨Nat.zero_le _, Nat.zero_le _⟩ rfl hl.1 rfl rfl (Nat.le_of_ble_eq_true rfl) dX9_divided_30 (fun hP H locs hw => ?_)
        refine lv_lload_n hx hb dX9_divided_33 rfl (lv_at hl 1 rfl) ?_
        refine lv_lmul hx hb dX9_divided_34 ?_
        refine lv_lsub hx hb dX9_divided_35 ?_
        refine lv_goto (tgt := 44) hx hb dX9_divided_36 (by decide) ?_
        cases h
        exact r_lret hC hw dX9_divided_44
  · have h := i_yes c28 h
    refine lv_iload hx hb dX9_divided_6 (lv_at hl 4 rfl) ?_
    refine lv_if_eq (tgt := 15) hx hb dX9_divided_8 (by decide) (fun c38 => ?_) (fun c38 => ?_)
    · have h := i_yes c38 h
      refine lv_lconst (v := 0) hx hb dX9_divided_15 (by decide) ?_
      cases h
      exact r_lret hC hw dX9_divided_16
    · have h := i_no c38 h
      refine lv_lload_n hx hb dX9_divided_11 rfl (lv_at hl 0 rfl) ?_
      refine lv_goto (tgt := 16) hx hb dX9_divided_12 (by decide) ?_
      cases h
      exact r_lret hC hw dX9_divided_16
set_option maxHeartbeats 4000000 in
set_option maxRecDepth 100000 in
theorem k_X9_divided {l : Launch} {G : va_G} {cA : Nat → ClassId} {S : sh} {D : dt} {ad : Nat → Nat} (sz : Nat) {x0 : Int64} {x2 : Int64} {x4 : Int32} {x5 : Int32} {x6 : Int32} {r : Int64}  (h : f_X9_divided x0 x2 x4 x5 x6 = some r) : Co l yX9_divided (Cond.code yX9_divided cX9_divided 11 (some .long) :: tb0) 2 48 [.long x0, .long x2, .int x4, .int x5, .int x6] G cA S D ad sz (some (.long r)) True D := by
  refine Met.ofW (cc := cX9_divided) (maxL := 11) (ret := (some .long)) (by decide) rfl ?_
  intro p e s m args below meth c s₁ B hml hv
  obtain ⟨rfl, hsz, hP, hK, hD0, hT, hX⟩ := hv
  subst hsz
  have hts := atoms_spec (ws := Cond.code yX9_divided cX9_divided 11 (some .long) :: tb0) B.pre
  have hC : Cx RX9 cX9_divided 11 (some .long) p s m _ meth c := ⟨B.exec, B.bytes, hml, findClass_of_methodNamed B.named, fun w q => hts w (List.mem_cons_of_mem _ q), B.returns, B.notSynchronized⟩
  have hw := Wd.entry hP hK hD0 hT hX
  have hl := lv_entry ([.long x0, .long x2, .int x4, .int x5, .int x6]) (n := 11) (Nat.le_of_ble_eq_true rfl)
  rw [lg_entry_eq]
  exact w_X9_divided_0 hC ⟨Nat.le_refl _, Nat.le_refl _⟩ x0 x2 x4 x5 x6 _ _ _ hw hl h
set_option maxHeartbeats 4000000 in
set_option maxRecDepth 100000 in
theorem w_X9_made_122 {r : Int64} {D' : dt} (hC : Cx RX9 cX9_made 9 (some .long) p s m args meth c) (hR : 3 ≤ R.frames ∧ 78 ≤ R.locals) : ∀ (xs0 : Int64) (xs1 : Int64) (xs2 : Int32) (xs3 : Int32) (D : dt) (H : Heap) (locs : List Loc) (ls : Array Slot), Wd G cA S D ad A s H locs → lv_has ls 9 [] → f_X9_made_122 S xs0 xs1 xs2 xs3 D = some (r, D') → W p l e R s m args below meth c H locs 0 0 (MQ below (Qn (some (.long r)) True (wpost G cA S D' ad A) A) args s 0 0 A) (F0 m 122 ls [.int xs3, .int xs2, .long xs1, .long xs0]) := by
  obtain ⟨hx, hb, -⟩ := id hC
  intro xs0 xs1 xs2 xs3 D H locs ls  hw hl h
  unfold f_X9_made_122 at h
  refine lv_iconst (v := 0) hx hb dX9_made_122 (by decide) ?_
  obtain ⟨r49, hq48, h⟩ := pq_i h
  refine r_cS (st' := [.long r49]) [.long xs0, .long xs1, .int xs2, .int xs3, .int (0 : Int32)] [] hC hw (k_X9_divided _ hq48) mk_X9_divided lk_1349 ⟨Nat.le_trans (by decide) hR.1, Nat.le_trans (by decide) hR.2⟩ ⟨Nat.zero_le _, Nat.zero_le _⟩ rfl hl.1 rfl rfl (Nat.le_of_ble_eq_true rfl) dX9_made_123 (fun hP H locs hw => ?_)
  cases h
  exact r_lret hC hw dX9_made_126
set_option maxHeartbeats 4000000 in
set_option maxRecDepth 100000 in
theorem w_X9_made_147 {r : Int64} {D' : dt} (hC : Cx RX9 cX9_made 9 (some .long) p s m args meth c) (hR : 3 ≤ R.frames ∧ 78 ≤ R.locals) : ∀ (xs0 : Int64) (xs1 : Int64) (xs2 : Int32) (xs3 : Int32) (D : dt) (H : Heap) (locs : List Loc) (ls : Array Slot), Wd G cA S D ad A s H locs → lv_has ls 9 [] → f_X9_made_147 S xs0 xs1 xs2 xs3 D = some (r, D') → W p l e R s m args below meth c H locs 0 0 (MQ below (Qn (some (.long r)) True (wpost G cA S D' ad A) A) args s 0 0 A) (F0 m 147 ls [.int xs3, .int xs2, .long xs1, .long xs0]) := by
  obtain ⟨hx, hb, -⟩ := id hC
  intro xs0 xs1 xs2 xs3 D H locs ls  hw hl h
  unfold f_X9_made_147 at h
  refine lv_iconst (v := 1) hx hb dX9_made_147 (by decide) ?_
  obtain ⟨r51, hq50, h⟩ := pq_i h
  refine r_cS (st' := [.long r51]) [.long xs0, .long xs1, .int xs2, .int xs3, .int (1 : Int32)] [] hC hw (k_X9_divided _ hq50) mk_X9_divided lk_1349 ⟨Nat.le_trans (by decide) hR.1, Nat.le_trans (by decide) hR.2⟩ ⟨Nat.zero_le _, Nat.zero_le _⟩ rfl hl.1 rfl rfl (Nat.le_of_ble_eq_true rfl) dX9_made_148 (fun hP H locs hw => ?_)
  cases h
  exact r_lret hC hw dX9_made_151
set_option maxHeartbeats 4000000 in
set_option maxRecDepth 100000 in
theorem w_X9_made_206 {r : Int64} {D' : dt} (hC : Cx RX9 cX9_made 9 (some .long) p s m args meth c) (hR : 3 ≤ R.frames ∧ 78 ≤ R.locals) : ∀ (o0 a0 : Nat) (x1 : Int32) (x6 : Int64) (D : dt) (H : Heap) (locs : List Loc) (ls : Array Slot), Is S ad o0 a0 8 → Wd G cA S D ad A s H locs → lv_has ls 9 [(0, .ref a0), (1, .int x1), (6, .long x6)] → f_X9_made_206 S o0 x1 x6 D = some (r, D') → W p l e R s m args below meth c H locs 0 0 (MQ below (Qn (some (.long r)) True (wpost G cA S D' ad A) A) args s 0 0 A) (F0 m 206 ls []) := by
  obtain ⟨hx, hb, -⟩ := id hC
  intro o0 a0 x1 x6 D H locs ls hi0 hw hl h
  unfold f_X9_made_206 at h
  refine lv_aload_n hx hb dX9_made_206 rfl (lv_at hl 0 rfl) ?_
  obtain ⟨o52, ho55, h⟩ := rq_i h
  refine r_getR hC hw kc_8 hi0 4 rfl lk_1073 dX9_made_207 rfl ho55 (fun a53 hi54 => ?_)
  refine lv_iload_n hx hb dX9_made_210 rfl (lv_at hl 1 rfl) ?_
  obtain ⟨hn56, h⟩ := ix_i h
  refine r_iald hC hw hi54 hn56 dX9_made_211 ?_
  refine lv_if_ne (tgt := 220) hx hb dX9_made_212 (by decide) (fun c57 => ?_) (fun c57 => ?_)
  · have h := i_no c57 h
    refine lv_lload hx hb dX9_made_220 (lv_at hl 2 rfl) ?_
    refine lv_aload_n hx hb dX9_made_222 rfl (lv_at hl 0 rfl) ?_
    obtain ⟨o58, ho61, h⟩ := rq_i h
    refine r_getR hC hw kc_8 hi0 4 rfl lk_1073 dX9_made_223 rfl ho61 (fun a59 hi60 => ?_)
    refine lv_iload_n hx hb dX9_made_226 rfl (lv_at hl 1 rfl) ?_
    obtain ⟨hn62, h⟩ := ix_i h
    refine r_iald hC hw hi60 hn62 dX9_made_227 ?_
    obtain ⟨r64, hq63, h⟩ := pq_i h
    refine r_cS (st' := [.long r64]) [.long x6, .int (gI D o58 x1.toNatClampNeg)] [] hC hw (k_X9_signed _ hq63) mk_X9_signed lk_1359 ⟨Nat.le_trans (by decide) hR.1, Nat.le_trans (by decide) hR.2⟩ ⟨Nat.zero_le _, Nat.zero_le _⟩ rfl hl.1 rfl rfl (Nat.le_of_ble_eq_true rfl) dX9_made_228 (fun hP H locs hw => ?_)
    cases h
    exact r_lret hC hw dX9_made_231
  · have h := i_yes c57 h
    refine lv_lload hx hb dX9_made_215 (lv_at hl 2 rfl) ?_
    refine lv_goto (tgt := 231) hx hb dX9_made_217 (by decide) ?_
    cases h
    exact r_lret hC hw dX9_made_231
set_option maxHeartbeats 4000000 in
set_option maxRecDepth 100000 in
theorem w_X9_made_198 {r : Int64} {D' : dt} (hC : Cx RX9 cX9_made 9 (some .long) p s m args meth c) (hR : 3 ≤ R.frames ∧ 78 ≤ R.locals) : ∀ (x8 : Int32) (xs0 : Int64) (D : dt) (H : Heap) (locs : List Loc) (ls : Array Slot), Wd G cA S D ad A s H locs → lv_has ls 9 [(8, .int x8)] → f_X9_made_198 S x8 xs0 D = some (r, D') → W p l e R s m args below meth c H locs 0 0 (MQ below (Qn (some (.long r)) True (wpost G cA S D' ad A) A) args s 0 0 A) (F0 m 198 ls [.long xs0]) := by
  obtain ⟨hx, hb, -⟩ := id hC
  intro x8 xs0 D H locs ls  hw hl h
  unfold f_X9_made_198 at h
  refine lv_iload hx hb dX9_made_198 (lv_at hl 0 rfl) ?_
  refine lv_lshr (v := j_lshr xs0 x8) hx hb dX9_made_200 rfl ?_
  cases h
  exact r_lret hC hw dX9_made_201
set_option maxHeartbeats 4000000 in
set_option maxRecDepth 100000 in
theorem w_X9_made_14 {r : Int64} {D' : dt} (hC : Cx RX9 cX9_made 9 (some .long) p s m args meth c) (hR : 3 ≤ R.frames ∧ 78 ≤ R.locals) : ∀ (o0 a0 : Nat) (x1 : Int32) (x2 : Int32) (x3 : Int32) (x4 : Int64) (x6 : Int64) (xs0 : Int32) (xs1 : Int32) (D : dt) (H : Heap) (locs : List Loc) (ls : Array Slot), Is S ad o0 a0 8 → Wd G cA S D ad A s H locs → lv_has ls 9 [(0, .ref a0), (1, .int x1), (2, .int x2), (3, .int x3), (4, .long x4), (6, .long x6)] → f_X9_made_14 S o0 x1 x2 x3 x4 x6 xs0 xs1 D = some (r, D') → W p l e R s m args below meth c H locs 0 0 (MQ below (Qn (some (.long r)) True (wpost G cA S D' ad A) A) args s 0 0 A) (F0 m 14 ls [.int xs1, .int xs0]) := by
  obtain ⟨hx, hb, -⟩ := id hC
  intro o0 a0 x1 x2 x3 x4 x6 xs0 xs1 D H locs ls hi0 hw hl h
  unfold f_X9_made_14 at h
  refine lv_iand hx hb dX9_made_14 ?_
  refine lv_topi (fun y65 ey65 => ?_)
  have h := nm_i h y65 ey65
  refine lv_istore (lv' := [(8, .int y65), (0, .ref a0), (1, .int x1), (2, .int x2), (3, .int x3), (4, .long x4), (6, .long x6)]) hx hb dX9_made_15 hl (by decide) rfl (fun ls hl => ?_)
  refine lv_iload_n hx hb dX9_made_17 rfl (lv_at hl 3 rfl) ?_
  by_cases c66 : x2 = 0
  · have h := i_yes c66 h
    refine lv_tableIn (off := 66) (tgt := 84) hx hb dX9_made_18 (by rw [c66]; decide) (by rw [c66]; decide) (by rw [c66] <;> rfl) (by decide) ?_
    refine lv_lload hx hb dX9_made_84 (lv_at hl 5 rfl) ?_
    refine lv_lload hx hb dX9_made_86 (lv_at hl 6 rfl) ?_
    refine lv_ladd hx hb dX9_made_88 ?_
    cases h
    exact r_lret hC hw dX9_made_89
  have h := i_no c66 h
  by_cases c67 : x2 = 1
  · have h := i_yes c67 h
    refine lv_tableIn (off := 72) (tgt := 90) hx hb dX9_made_18 (by rw [c67]; decide) (by rw [c67]; decide) (by rw [c67] <;> rfl) (by decide) ?_
    refine lv_lload hx hb dX9_made_90 (lv_at hl 5 rfl) ?_
    refine lv_lload hx hb dX9_made_92 (lv_at hl 6 rfl) ?_
    refine lv_lsub hx hb dX9_made_94 ?_
    cases h
    exact r_lret hC hw dX9_made_95
  have h := i_no c67 h
  by_cases c68 : x2 = 2
  · have h := i_yes c68 h
    refine lv_tableIn (off := 78) (tgt := 96) hx hb dX9_made_18 (by rw [c68]; decide) (by rw [c68]; decide) (by rw [c68] <;> rfl) (by decide) ?_
    refine lv_lload hx hb dX9_made_96 (lv_at hl 5 rfl) ?_
    refine lv_lload hx hb dX9_made_98 (lv_at hl 6 rfl) ?_
    refine lv_lmul hx hb dX9_made_100 ?_
    cases h
    exact r_lret hC hw dX9_made_101
  have h := i_no c68 h
  by_cases c69 : x2 = 3
  · have h := i_yes c69 h
    refine lv_tableIn (off := 84) (tgt := 102) hx hb dX9_made_18 (by rw [c69]; decide) (by rw [c69]; decide) (by rw [c69] <;> rfl) (by decide) ?_
    refine lv_lload hx hb dX9_made_102 (lv_at hl 5 rfl) ?_
    refine lv_lload hx hb dX9_made_104 (lv_at hl 6 rfl) ?_
    refine lv_iload_n hx hb dX9_made_106 rfl (lv_at hl 4 rfl) ?_
    refine lv_aload_n hx hb dX9_made_107 rfl (lv_at hl 1 rfl) ?_
    obtain ⟨o70, ho73, h⟩ := rq_i h
    refine r_getR hC hw kc_8 hi0 4 rfl lk_1073 dX9_made_108 rfl ho73 (fun a71 hi72 => ?_)
    refine lv_iload_n hx hb dX9_made_111 rfl (lv_at hl 2 rfl) ?_
    obtain ⟨hn74, h⟩ := ix_i h
    refine r_iald hC hw hi72 hn74 dX9_made_112 ?_
    refine lv_iconst (v := 1) hx hb dX9_made_113 (by decide) ?_
    refine lv_icmp_ne (tgt := 121) hx hb dX9_made_114 (by decide) (fun c75 => ?_) (fun c75 => ?_)
    · have h := i_no c75 h
      refine lv_iconst (v := 0) hx hb dX9_made_121 (by decide) ?_
      exact w_X9_made_122 hC hR x4 x6 x3 (0 : Int32) _ _ _ _ hw (lv_sub hl [] rfl) h
    · have h := i_yes c75 h
      refine lv_iconst (v := 1) hx hb dX9_made_117 (by decide) ?_
      refine lv_goto (tgt := 122) hx hb dX9_made_118 (by decide) ?_
      exact w_X9_made_122 hC hR x4 x6 x3 (1 : Int32) _ _ _ _ hw (lv_sub hl [] rfl) h
  have h := i_no c69 h
  by_cases c76 : x2 = 4
  · have h := i_yes c76 h
    refine lv_tableIn (off := 134) (tgt := 152) hx hb dX9_made_18 (by rw [c76]; decide) (by rw [c76]; decide) (by rw [c76] <;> rfl) (by decide) ?_
    refine lv_lload hx hb dX9_made_152 (lv_at hl 5 rfl) ?_
    refine lv_lload hx hb dX9_made_154 (lv_at hl 6 rfl) ?_
    refine lv_lor hx hb dX9_made_156 ?_
    cases h
    exact r_lret hC hw dX9_made_157
  have h := i_no c76 h
  by_cases c77 : x2 = 5
  · have h := i_yes c77 h
    refine lv_tableIn (off := 140) (tgt := 158) hx hb dX9_made_18 (by rw [c77]; decide) (by rw [c77]; decide) (by rw [c77] <;> rfl) (by decide) ?_
    refine lv_lload hx hb dX9_made_158 (lv_at hl 5 rfl) ?_
    refine lv_lload hx hb dX9_made_160 (lv_at hl 6 rfl) ?_
    refine lv_land hx hb dX9_made_162 ?_
    cases h
    exact r_lret hC hw dX9_made_163
  have h := i_no c77 h
  by_cases c78 : x2 = 6
  · have h := i_yes c78 h
    refine lv_tableIn (off := 152) (tgt := 170) hx hb dX9_made_18 (by rw [c78]; decide) (by rw [c78]; decide) (by rw [c78] <;> rfl) (by decide) ?_
    refine lv_lload hx hb dX9_made_170 (lv_at hl 5 rfl) ?_
    refine lv_iload hx hb dX9_made_172 (lv_at hl 0 rfl) ?_
    refine lv_lshl (v := j_lshl x4 y65) hx hb dX9_made_174 rfl ?_
    cases h
    exact r_lret hC hw dX9_made_175
  have h := i_no c78 h
  by_cases c79 : x2 = 7
  · have h := i_yes c79 h
    refine lv_tableIn (off := 158) (tgt := 176) hx hb dX9_made_18 (by rw [c79]; decide) (by rw [c79]; decide) (by rw [c79] <;> rfl) (by decide) ?_
    refine lv_lload hx hb dX9_made_176 (lv_at hl 5 rfl) ?_
    refine lv_iload hx hb dX9_made_178 (lv_at hl 0 rfl) ?_
    refine lv_lushr (v := j_lushr x4 y65) hx hb dX9_made_180 rfl ?_
    cases h
    exact r_lret hC hw dX9_made_181
  have h := i_no c79 h
  by_cases c80 : x2 = 8
  · have h := i_yes c80 h
    refine lv_tableIn (off := 184) (tgt := 202) hx hb dX9_made_18 (by rw [c80]; decide) (by rw [c80]; decide) (by rw [c80] <;> rfl) (by decide) ?_
    refine lv_lload hx hb dX9_made_202 (lv_at hl 5 rfl) ?_
    refine lv_lneg hx hb dX9_made_204 ?_
    cases h
    exact r_lret hC hw dX9_made_205
  have h := i_no c80 h
  by_cases c81 : x2 = 9
  · have h := i_yes c81 h
    refine lv_tableIn (off := 109) (tgt := 127) hx hb dX9_made_18 (by rw [c81]; decide) (by rw [c81]; decide) (by rw [c81] <;> rfl) (by decide) ?_
    refine lv_lload hx hb dX9_made_127 (lv_at hl 5 rfl) ?_
    refine lv_lload hx hb dX9_made_129 (lv_at hl 6 rfl) ?_
    refine lv_iload_n hx hb dX9_made_131 rfl (lv_at hl 4 rfl) ?_
    refine lv_aload_n hx hb dX9_made_132 rfl (lv_at hl 1 rfl) ?_
    obtain ⟨o82, ho85, h⟩ := rq_i h
    refine r_getR hC hw kc_8 hi0 4 rfl lk_1073 dX9_made_133 rfl ho85 (fun a83 hi84 => ?_)
    refine lv_iload_n hx hb dX9_made_136 rfl (lv_at hl 2 rfl) ?_
    obtain ⟨hn86, h⟩ := ix_i h
    refine r_iald hC hw hi84 hn86 dX9_made_137 ?_
    refine lv_iconst (v := 1) hx hb dX9_made_138 (by decide) ?_
    refine lv_icmp_ne (tgt := 146) hx hb dX9_made_139 (by decide) (fun c87 => ?_) (fun c87 => ?_)
    · have h := i_no c87 h
      refine lv_iconst (v := 0) hx hb dX9_made_146 (by decide) ?_
      exact w_X9_made_147 hC hR x4 x6 x3 (0 : Int32) _ _ _ _ hw (lv_sub hl [] rfl) h
    · have h := i_yes c87 h
      refine lv_iconst (v := 1) hx hb dX9_made_142 (by decide) ?_
      refine lv_goto (tgt := 147) hx hb dX9_made_143 (by decide) ?_
      exact w_X9_made_147 hC hR x4 x6 x3 (1 : Int32) _ _ _ _ hw (lv_sub hl [] rfl) h
  have h := i_no c81 h
  by_cases c88 : x2 = 10
  · have h := i_yes c88 h
    refine lv_tableIn (off := 146) (tgt := 164) hx hb dX9_made_18 (by rw [c88]; decide) (by rw [c88]; decide) (by rw [c88] <;> rfl) (by decide) ?_
    refine lv_lload hx hb dX9_made_164 (lv_at hl 5 rfl) ?_
    refine lv_lload hx hb dX9_made_166 (lv_at hl 6 rfl) ?_
    refine lv_lxor hx hb dX9_made_168 ?_
    cases h
    exact r_lret hC hw dX9_made_169
  have h := i_no c88 h
  by_cases c89 : x2 = 11
  · have h := i_yes c89 h
    refine lv_tableIn (off := 188) (tgt := 206) hx hb dX9_made_18 (by rw [c89]; decide) (by rw [c89]; decide) (by rw [c89] <;> rfl) (by decide) ?_
    exact w_X9_made_206 hC hR o0 a0 x1 x6 _ _ _ _ hi0 hw (lv_sub hl [1, 2, 6] rfl) h
  have h := i_no c89 h
  by_cases c90 : x2 = 12
  · have h := i_yes c90 h
    refine lv_tableIn (off := 164) (tgt := 182) hx hb dX9_made_18 (by rw [c90]; decide) (by rw [c90]; decide) (by rw [c90] <;> rfl) (by decide) ?_
    refine lv_iload_n hx hb dX9_made_182 rfl (lv_at hl 4 rfl) ?_
    refine lv_if_eq (tgt := 191) hx hb dX9_made_183 (by decide) (fun c91 => ?_) (fun c91 => ?_)
    · have h := i_yes c91 h
      refine lv_lload hx hb dX9_made_191 (lv_at hl 5 rfl) ?_
      refine lv_bipush (v := 32) hx hb dX9_made_193 (by decide) ?_
      obtain ⟨r93, hq92, h⟩ := pq_i h
      refine r_cS (st' := [.long r93]) [.long x4, .int (32 : Int32)] [] hC hw (k_X9_signed _ hq92) mk_X9_signed lk_1359 ⟨Nat.le_trans (by decide) hR.1, Nat.le_trans (by decide) hR.2⟩ ⟨Nat.zero_le _, Nat.zero_le _⟩ rfl hl.1 rfl rfl (Nat.le_of_ble_eq_true rfl) dX9_made_195 (fun hP H locs hw => ?_)
      exact w_X9_made_198 hC hR y65 r93 _ _ _ _ hw (lv_sub hl [0] rfl) h
    · have h := i_no c91 h
      refine lv_lload hx hb dX9_made_186 (lv_at hl 5 rfl) ?_
      refine lv_goto (tgt := 198) hx hb dX9_made_188 (by decide) ?_
      exact w_X9_made_198 hC hR y65 x4 _ _ _ _ hw (lv_sub hl [0] rfl) h
  have h := i_no c90 h
  refine lv_tableOut (tgt := 206) hx hb dX9_made_18 (by have nc66 := lv_neT c66 (a := 0) rfl; have nc67 := lv_neT c67 (a := 1) rfl; have nc68 := lv_neT c68 (a := 2) rfl; have nc69 := lv_neT c69 (a := 3) rfl; have nc76 := lv_neT c76 (a := 4) rfl; have nc77 := lv_neT c77 (a := 5) rfl; have nc78 := lv_neT c78 (a := 6) rfl; have nc79 := lv_neT c79 (a := 7) rfl; have nc80 := lv_neT c80 (a := 8) rfl; have nc81 := lv_neT c81 (a := 9) rfl; have nc88 := lv_neT c88 (a := 10) rfl; have nc89 := lv_neT c89 (a := 11) rfl; have nc90 := lv_neT c90 (a := 12) rfl; omega) (by decide) ?_
  exact w_X9_made_206 hC hR o0 a0 x1 x6 _ _ _ _ hi0 hw (lv_sub hl [1, 2, 6] rfl) h
set_option maxHeartbeats 4000000 in
set_option maxRecDepth 100000 in
theorem w_X9_made_0 {r : Int64} {D' : dt} (hC : Cx RX9 cX9_made 9 (some .long) p s m args meth c) (hR : 3 ≤ R.frames ∧ 78 ≤ R.locals) : ∀ (o0 a0 : Nat) (x1 : Int32) (x2 : Int32) (x3 : Int32) (x4 : Int64) (x6 : Int64) (D : dt) (H : Heap) (locs : List Loc) (ls : Array Slot), Is S ad o0 a0 8 → Wd G cA S D ad A s H locs → lv_has ls 9 [(0, .ref a0), (1, .int x1), (2, .int x2), (3, .int x3), (4, .long x4), (6, .long x6)] → f_X9_made S o0 x1 x2 x3 x4 x6 D = some (r, D') → W p l e R s m args below meth c H locs 0 0 (MQ below (Qn (some (.long r)) True (wpost G cA S D' ad A) A) args s 0 0 A) (F0 m 0 ls []) := by
  obtain ⟨hx, hb, -⟩ := id hC
  intro o0 a0 x1 x2 x3 x4 x6 D H locs ls hi0 hw hl h
  unfold f_X9_made at h
  refine lv_lload hx hb dX9_made_0 (lv_at hl 5 rfl) ?_
  refine lv_l2i (v := x6.toInt32) hx hb dX9_made_2 rfl ?_
  refine lv_iload_n hx hb dX9_made_3 rfl (lv_at hl 3 rfl) ?_
  refine lv_if_eq (tgt := 12) hx hb dX9_made_4 (by decide) (fun c94 => ?_) (fun c94 => ?_)
  · have h := i_yes c94 h
    refine lv_bipush (v := 31) hx hb dX9_made_12 (by decide) ?_
    exact w_X9_made_14 hC hR o0 a0 x1 x2 x3 x4 x6 x6.toInt32 (31 : Int32) _ _ _ _ hi0 hw (lv_sub hl [0, 1, 2, 3, 4, 5] rfl) h
  · have h := i_no c94 h
    refine lv_bipush (v := 63) hx hb dX9_made_7 (by decide) ?_
    refine lv_goto (tgt := 14) hx hb dX9_made_9 (by decide) ?_
    exact w_X9_made_14 hC hR o0 a0 x1 x2 x3 x4 x6 x6.toInt32 (63 : Int32) _ _ _ _ hi0 hw (lv_sub hl [0, 1, 2, 3, 4, 5] rfl) h
set_option maxHeartbeats 4000000 in
set_option maxRecDepth 100000 in
theorem k_X9_made {l : Launch} {G : va_G} {cA : Nat → ClassId} {S : sh} {D D' : dt} {ad : Nat → Nat} (sz : Nat) {o0 a0 : Nat} {x1 : Int32} {x2 : Int32} {x3 : Int32} {x4 : Int64} {x6 : Int64} {r : Int64} (hi0 : Is S ad o0 a0 8) (h : f_X9_made S o0 x1 x2 x3 x4 x6 D = some (r, D')) : Co l yX9_made (Cond.code yX9_made cX9_made 9 (some .long) :: tb0) 3 78 [.ref a0, .int x1, .int x2, .int x3, .long x4, .long x6] G cA S D ad sz (some (.long r)) True D' := by
  refine Met.ofW (cc := cX9_made) (maxL := 9) (ret := (some .long)) (by decide) rfl ?_
  intro p e s m args below meth c s₁ B hml hv
  obtain ⟨rfl, hsz, hP, hK, hD0, hT, hX⟩ := hv
  subst hsz
  have hts := atoms_spec (ws := Cond.code yX9_made cX9_made 9 (some .long) :: tb0) B.pre
  have hC : Cx RX9 cX9_made 9 (some .long) p s m _ meth c := ⟨B.exec, B.bytes, hml, findClass_of_methodNamed B.named, fun w q => hts w (List.mem_cons_of_mem _ q), B.returns, B.notSynchronized⟩
  have hw := Wd.entry hP hK hD0 hT hX
  have hl := lv_entry ([.ref a0, .int x1, .int x2, .int x3, .long x4, .long x6]) (n := 9) (Nat.le_of_ble_eq_true rfl)
  rw [lg_entry_eq]
  exact w_X9_made_0 hC ⟨Nat.le_refl _, Nat.le_refl _⟩ o0 a0 x1 x2 x3 x4 x6 D _ _ _ hi0 hw hl h
set_option maxHeartbeats 4000000 in
set_option maxRecDepth 100000 in
theorem w_X9_reckon_89 {r : Int64} {D' : dt} (hC : Cx RX9 cX9_reckon 14 (some .long) p s m args meth c) (hR : 4 ≤ R.frames ∧ 106 ≤ R.locals) : ∀ (o0 a0 : Nat) (x1 : Int32) (x8 : Int64) (D : dt) (H : Heap) (locs : List Loc) (ls : Array Slot), Is S ad o0 a0 8 → Wd G cA S D ad A s H locs → lv_has ls 14 [(0, .ref a0), (1, .int x1), (8, .long x8)] → f_X9_reckon_89 S o0 x1 x8 D = some (r, D') → W p l e R s m args below meth c H locs 0 0 (MQ below (Qn (some (.long r)) True (wpost G cA S D' ad A) A) args s 0 0 A) (F0 m 89 ls []) := by
  obtain ⟨hx, hb, -⟩ := id hC
  intro o0 a0 x1 x8 D H locs ls hi0 hw hl h
  unfold f_X9_reckon_89 at h
  refine lv_lload hx hb dX9_reckon_89 (lv_at hl 2 rfl) ?_
  refine lv_aload_n hx hb dX9_reckon_91 rfl (lv_at hl 0 rfl) ?_
  obtain ⟨o45, ho48, h⟩ := rq_i h
  refine r_getR hC hw kc_8 hi0 5 rfl lk_1074 dX9_reckon_92 rfl ho48 (fun a46 hi47 => ?_)
  refine lv_iload_n hx hb dX9_reckon_95 rfl (lv_at hl 1 rfl) ?_
  obtain ⟨hn49, h⟩ := ix_i h
  refine r_iald hC hw hi47 hn49 dX9_reckon_96 ?_
  obtain ⟨r51, hq50, h⟩ := pq_i h
  refine r_cS (st' := [.long r51]) [.long x8, .int (gI D o45 x1.toNatClampNeg)] [] hC hw (k_X9_turned _ hq50) mk_X9_turned lk_1341 ⟨Nat.le_trans (by decide) hR.1, Nat.le_trans (by decide) hR.2⟩ ⟨Nat.zero_le _, Nat.zero_le _⟩ rfl hl.1 rfl rfl (Nat.le_of_ble_eq_true rfl) dX9_reckon_97 (fun hP H locs hw => ?_)
  cases h
  exact r_lret hC hw dX9_reckon_100
set_option maxHeartbeats 4000000 in
set_option maxRecDepth 100000 in
theorem w_X9_reckon_65 {r : Int64} {D' : dt} (hC : Cx RX9 cX9_reckon 14 (some .long) p s m args meth c) (hR : 4 ≤ R.frames ∧ 106 ≤ R.locals) : ∀ (o0 a0 : Nat) (x1 : Int32) (x6 : Int32) (xs0 : Int64) (D : dt) (H : Heap) (locs : List Loc) (ls : Array Slot), Is S ad o0 a0 8 → Wd G cA S D ad A s H locs → lv_has ls 14 [(0, .ref a0), (1, .int x1), (6, .int x6)] → f_X9_reckon_65 S o0 x1 x6 xs0 D = some (r, D') → W p l e R s m args below meth c H locs 0 0 (MQ below (Qn (some (.long r)) True (wpost G cA S D' ad A) A) args s 0 0 A) (F0 m 65 ls [.long xs0]) := by
  obtain ⟨hx, hb, -⟩ := id hC
  intro o0 a0 x1 x6 xs0 D H locs ls hi0 hw hl h
  unfold f_X9_reckon_65 at h
  refine lv_lstore (lv' := [(8, .long xs0), (0, .ref a0), (1, .int x1), (6, .int x6)]) hx hb dX9_reckon_65 hl (by decide) rfl (fun ls hl => ?_)
  refine lv_iload hx hb dX9_reckon_67 (lv_at hl 3 rfl) ?_
  refine lv_if_ne (tgt := 89) hx hb dX9_reckon_69 (by decide) (fun c52 => ?_) (fun c52 => ?_)
  · have h := i_no c52 h
    exact w_X9_reckon_89 hC hR o0 a0 x1 xs0 _ _ _ _ hi0 hw (lv_sub hl [1, 2, 0] rfl) h
  · have h := i_yes c52 h
    refine lv_aload_n hx hb dX9_reckon_72 rfl (lv_at hl 1 rfl) ?_
    obtain ⟨o53, ho56, h⟩ := rq_i h
    refine r_getR hC hw kc_8 hi0 1 rfl lk_1070 dX9_reckon_73 rfl ho56 (fun a54 hi55 => ?_)
    refine lv_iload_n hx hb dX9_reckon_76 rfl (lv_at hl 2 rfl) ?_
    obtain ⟨hn57, h⟩ := ix_i h
    refine r_iald hC hw hi55 hn57 dX9_reckon_77 ?_
    refine lv_bipush (v := 8) hx hb dX9_reckon_78 (by decide) ?_
    refine lv_iand hx hb dX9_reckon_80 ?_
    refine lv_if_ne (tgt := 89) hx hb dX9_reckon_81 (by decide) (fun c58 => ?_) (fun c58 => ?_)
    · have h := i_no c58 h
      exact w_X9_reckon_89 hC hR o0 a0 x1 xs0 _ _ _ _ hi0 hw (lv_sub hl [1, 2, 0] rfl) h
    · have h := i_yes c58 h
      refine lv_lload hx hb dX9_reckon_84 (lv_at hl 0 rfl) ?_
      refine lv_goto (tgt := 100) hx hb dX9_reckon_86 (by decide) ?_
      cases h
      exact r_lret hC hw dX9_reckon_100
set_option maxHeartbeats 4000000 in
set_option maxRecDepth 100000 in
theorem w_X9_reckon_133 {r : Int64} {D' : dt} (hC : Cx RX9 cX9_reckon 14 (some .long) p s m args meth c) (hR : 4 ≤ R.frames ∧ 106 ≤ R.locals) : ∀ (o0 a0 : Nat) (x1 : Int32) (x6 : Int32) (x7 : Int32) (x8 : Int64) (xs0 : Int64) (D : dt) (H : Heap) (locs : List Loc) (ls : Array Slot), Is S ad o0 a0 8 → Wd G cA S D ad A s H locs → lv_has ls 14 [(0, .ref a0), (1, .int x1), (6, .int x6), (7, .int x7), (8, .long x8)] → f_X9_reckon_133 S o0 x1 x6 x7 x8 xs0 D = some (r, D') → W p l e R s m args below meth c H locs 0 0 (MQ below (Qn (some (.long r)) True (wpost G cA S D' ad A) A) args s 0 0 A) (F0 m 133 ls [.long xs0]) := by
  obtain ⟨hx, hb, -⟩ := id hC
  intro o0 a0 x1 x6 x7 x8 xs0 D H locs ls hi0 hw hl h
  unfold f_X9_reckon_133 at h
  refine lv_lstore (lv' := [(10, .long xs0), (0, .ref a0), (1, .int x1), (6, .int x6), (7, .int x7), (8, .long x8)]) hx hb dX9_reckon_133 hl (by decide) rfl (fun ls hl => ?_)
  refine lv_aload_n hx hb dX9_reckon_135 rfl (lv_at hl 1 rfl) ?_
  refine lv_iload_n hx hb dX9_reckon_136 rfl (lv_at hl 2 rfl) ?_
  refine lv_iload hx hb dX9_reckon_137 (lv_at hl 4 rfl) ?_
  refine lv_iload hx hb dX9_reckon_139 (lv_at hl 3 rfl) ?_
  refine lv_lload hx hb dX9_reckon_141 (lv_at hl 5 rfl) ?_
  refine lv_lload hx hb dX9_reckon_143 (lv_at hl 0 rfl) ?_
  obtain ⟨r60, D61, hq59, h⟩ := cq_i h
  refine r_cV (st' := [.long r60]) [.int x1, .int x7, .int x6, .long x8, .long xs0] [] hC hw kc_8 hi0 (k_X9_made _ hi0 hq59) mk_X9_made lk_1345 ⟨Nat.le_trans (by decide) hR.1, Nat.le_trans (by decide) hR.2⟩ ⟨Nat.zero_le _, Nat.zero_le _⟩ rfl hl.1 rfl rfl (Nat.le_of_ble_eq_true rfl) dX9_reckon_145 (fun hP H locs hw => ?_)
  refine lv_lstore (lv' := [(12, .long r60), (10, .long xs0), (0, .ref a0), (1, .int x1), (6, .int x6), (7, .int x7), (8, .long x8)]) hx hb dX9_reckon_148 hl (by decide) rfl (fun ls hl => ?_)
  refine lv_iload hx hb dX9_reckon_150 (lv_at hl 4 rfl) ?_
  refine lv_if_eq (tgt := 160) hx hb dX9_reckon_152 (by decide) (fun c62 => ?_) (fun c62 => ?_)
  · have h := i_yes c62 h
    refine lv_lload hx hb dX9_reckon_160 (lv_at hl 0 rfl) ?_
    refine lv_ldc2 (v := 4294967295) hx hb hC.2.2.2.1 (hC.2.2.2.2.1 _ lk_1344) dX9_reckon_162 ?_
    refine lv_land hx hb dX9_reckon_165 ?_
    cases h
    exact r_lret hC hw dX9_reckon_166
  · have h := i_no c62 h
    refine lv_lload hx hb dX9_reckon_155 (lv_at hl 0 rfl) ?_
    refine lv_goto (tgt := 166) hx hb dX9_reckon_157 (by decide) ?_
    cases h
    exact r_lret hC hw dX9_reckon_166
set_option maxHeartbeats 4000000 in
set_option maxRecDepth 100000 in
theorem w_X9_reckon_115 {r : Int64} {D' : dt} (hC : Cx RX9 cX9_reckon 14 (some .long) p s m args meth c) (hR : 4 ≤ R.frames ∧ 106 ≤ R.locals) : ∀ (o0 a0 : Nat) (x1 : Int32) (x4 : Int64) (x6 : Int32) (x7 : Int32) (xs0 : Int64) (D : dt) (H : Heap) (locs : List Loc) (ls : Array Slot), Is S ad o0 a0 8 → Wd G cA S D ad A s H locs → lv_has ls 14 [(0, .ref a0), (1, .int x1), (4, .long x4), (6, .int x6), (7, .int x7)] → f_X9_reckon_115 S o0 x1 x4 x6 x7 xs0 D = some (r, D') → W p l e R s m args below meth c H locs 0 0 (MQ below (Qn (some (.long r)) True (wpost G cA S D' ad A) A) args s 0 0 A) (F0 m 115 ls [.long xs0]) := by
  obtain ⟨hx, hb, -⟩ := id hC
  intro o0 a0 x1 x4 x6 x7 xs0 D H locs ls hi0 hw hl h
  unfold f_X9_reckon_115 at h
  refine lv_lstore (lv' := [(8, .long xs0), (0, .ref a0), (1, .int x1), (4, .long x4), (6, .int x6), (7, .int x7)]) hx hb dX9_reckon_115 hl (by decide) rfl (fun ls hl => ?_)
  refine lv_iload hx hb dX9_reckon_117 (lv_at hl 4 rfl) ?_
  refine lv_if_eq (tgt := 127) hx hb dX9_reckon_119 (by decide) (fun c63 => ?_) (fun c63 => ?_)
  · have h := i_yes c63 h
    refine lv_lload hx hb dX9_reckon_127 (lv_at hl 3 rfl) ?_
    refine lv_ldc2 (v := 4294967295) hx hb hC.2.2.2.1 (hC.2.2.2.2.1 _ lk_1344) dX9_reckon_129 ?_
    refine lv_land hx hb dX9_reckon_132 ?_
    exact w_X9_reckon_133 hC hR o0 a0 x1 x6 x7 xs0 (x4 &&& (4294967295 : Int64)) _ _ _ _ hi0 hw (lv_sub hl [1, 2, 4, 5, 0] rfl) h
  · have h := i_no c63 h
    refine lv_lload hx hb dX9_reckon_122 (lv_at hl 3 rfl) ?_
    refine lv_goto (tgt := 133) hx hb dX9_reckon_124 (by decide) ?_
    exact w_X9_reckon_133 hC hR o0 a0 x1 x6 x7 xs0 x4 _ _ _ _ hi0 hw (lv_sub hl [1, 2, 4, 5, 0] rfl) h
set_option maxHeartbeats 4000000 in
set_option maxRecDepth 100000 in
theorem w_X9_reckon_19 {r : Int64} {D' : dt} (hC : Cx RX9 cX9_reckon 14 (some .long) p s m args meth c) (hR : 4 ≤ R.frames ∧ 106 ≤ R.locals) : ∀ (o0 a0 : Nat) (x1 : Int32) (x2 : Int64) (x4 : Int64) (xs0 : Int32) (D : dt) (H : Heap) (locs : List Loc) (ls : Array Slot), Is S ad o0 a0 8 → Wd G cA S D ad A s H locs → lv_has ls 14 [(0, .ref a0), (1, .int x1), (2, .long x2), (4, .long x4)] → f_X9_reckon_19 S o0 x1 x2 x4 xs0 D = some (r, D') → W p l e R s m args below meth c H locs 0 0 (MQ below (Qn (some (.long r)) True (wpost G cA S D' ad A) A) args s 0 0 A) (F0 m 19 ls [.int xs0]) := by
  obtain ⟨hx, hb, -⟩ := id hC
  intro o0 a0 x1 x2 x4 xs0 D H locs ls hi0 hw hl h
  unfold f_X9_reckon_19 at h
  refine lv_istore (lv' := [(6, .int xs0), (0, .ref a0), (1, .int x1), (2, .long x2), (4, .long x4)]) hx hb dX9_reckon_19 hl (by decide) rfl (fun ls hl => ?_)
  refine lv_aload_n hx hb dX9_reckon_21 rfl (lv_at hl 1 rfl) ?_
  obtain ⟨o64, ho67, h⟩ := rq_i h
  refine r_getR hC hw kc_8 hi0 1 rfl lk_1070 dX9_reckon_22 rfl ho67 (fun a65 hi66 => ?_)
  refine lv_iload_n hx hb dX9_reckon_25 rfl (lv_at hl 2 rfl) ?_
  obtain ⟨hn68, h⟩ := ix_i h
  refine r_iald hC hw hi66 hn68 dX9_reckon_26 ?_
  refine lv_iconst (v := 4) hx hb dX9_reckon_27 (by decide) ?_
  refine lv_ishr hx hb dX9_reckon_28 ?_
  refine lv_topi (fun y69 ey69 => ?_)
  have h := nm_i h y69 ey69
  refine lv_istore (lv' := [(7, .int y69), (6, .int xs0), (0, .ref a0), (1, .int x1), (2, .long x2), (4, .long x4)]) hx hb dX9_reckon_29 hl (by decide) rfl (fun ls hl => ?_)
  refine lv_iload hx hb dX9_reckon_31 (lv_at hl 0 rfl) ?_
  refine lv_bipush (v := 13) hx hb dX9_reckon_33 (by decide) ?_
  refine lv_icmp_ne (tgt := 101) hx hb dX9_reckon_35 (by decide) (fun c70 => ?_) (fun c70 => ?_)
  · have h := i_no c70 h
    refine lv_iload hx hb dX9_reckon_101 (lv_at hl 1 rfl) ?_
    refine lv_if_eq (tgt := 110) hx hb dX9_reckon_103 (by decide) (fun c71 => ?_) (fun c71 => ?_)
    · have h := i_yes c71 h
      refine lv_lload_n hx hb dX9_reckon_110 rfl (lv_at hl 4 rfl) ?_
      refine lv_ldc2 (v := 4294967295) hx hb hC.2.2.2.1 (hC.2.2.2.2.1 _ lk_1344) dX9_reckon_111 ?_
      refine lv_land hx hb dX9_reckon_114 ?_
      exact w_X9_reckon_115 hC hR o0 a0 x1 x4 xs0 y69 (x2 &&& (4294967295 : Int64)) _ _ _ _ hi0 hw (lv_sub hl [2, 3, 5, 1, 0] rfl) h
    · have h := i_no c71 h
      refine lv_lload_n hx hb dX9_reckon_106 rfl (lv_at hl 4 rfl) ?_
      refine lv_goto (tgt := 115) hx hb dX9_reckon_107 (by decide) ?_
      exact w_X9_reckon_115 hC hR o0 a0 x1 x4 xs0 y69 x2 _ _ _ _ hi0 hw (lv_sub hl [2, 3, 5, 1, 0] rfl) h
  · have h := i_yes c70 h
    refine lv_aload_n hx hb dX9_reckon_38 rfl (lv_at hl 2 rfl) ?_
    obtain ⟨o72, ho75, h⟩ := rq_i h
    refine r_getR hC hw kc_8 hi0 5 rfl lk_1074 dX9_reckon_39 rfl ho75 (fun a73 hi74 => ?_)
    refine lv_iload_n hx hb dX9_reckon_42 rfl (lv_at hl 3 rfl) ?_
    obtain ⟨hn76, h⟩ := ix_i h
    refine r_iald hC hw hi74 hn76 dX9_reckon_43 ?_
    refine lv_bipush (v := 64) hx hb dX9_reckon_44 (by decide) ?_
    refine lv_icmp_ne (tgt := 53) hx hb dX9_reckon_46 (by decide) (fun c77 => ?_) (fun c77 => ?_)
    · have h := i_no c77 h
      refine lv_lload_n hx hb dX9_reckon_53 rfl (lv_at hl 4 rfl) ?_
      refine lv_lconst (v := 1) hx hb dX9_reckon_54 (by decide) ?_
      refine lv_aload_n hx hb dX9_reckon_55 rfl (lv_at hl 2 rfl) ?_
      obtain ⟨o78, ho81, h⟩ := rq_i h
      refine r_getR hC hw kc_8 hi0 5 rfl lk_1074 dX9_reckon_56 rfl ho81 (fun a79 hi80 => ?_)
      refine lv_iload_n hx hb dX9_reckon_59 rfl (lv_at hl 3 rfl) ?_
      obtain ⟨hn82, h⟩ := ix_i h
      refine r_iald hC hw hi80 hn82 dX9_reckon_60 ?_
      refine lv_lshl (v := j_lshl (1 : Int64) (gI D o78 x1.toNatClampNeg)) hx hb dX9_reckon_61 rfl ?_
      refine lv_lconst (v := 1) hx hb dX9_reckon_62 (by decide) ?_
      refine lv_lsub hx hb dX9_reckon_63 ?_
      refine lv_land hx hb dX9_reckon_64 ?_
      exact w_X9_reckon_65 hC hR o0 a0 x1 xs0 (x2 &&& ((j_lshl (1 : Int64) (gI D o78 x1.toNatClampNeg)) - (1 : Int64))) _ _ _ _ hi0 hw (lv_sub hl [2, 3, 1] rfl) h
    · have h := i_yes c77 h
      refine lv_lload_n hx hb dX9_reckon_49 rfl (lv_at hl 4 rfl) ?_
      refine lv_goto (tgt := 65) hx hb dX9_reckon_50 (by decide) ?_
      exact w_X9_reckon_65 hC hR o0 a0 x1 xs0 x2 _ _ _ _ hi0 hw (lv_sub hl [2, 3, 1] rfl) h
set_option maxHeartbeats 4000000 in
set_option maxRecDepth 100000 in
theorem w_X9_reckon_0 {r : Int64} {D' : dt} (hC : Cx RX9 cX9_reckon 14 (some .long) p s m args meth c) (hR : 4 ≤ R.frames ∧ 106 ≤ R.locals) : ∀ (o0 a0 : Nat) (x1 : Int32) (x2 : Int64) (x4 : Int64) (D : dt) (H : Heap) (locs : List Loc) (ls : Array Slot), Is S ad o0 a0 8 → Wd G cA S D ad A s H locs → lv_has ls 14 [(0, .ref a0), (1, .int x1), (2, .long x2), (4, .long x4)] → f_X9_reckon S o0 x1 x2 x4 D = some (r, D') → W p l e R s m args below meth c H locs 0 0 (MQ below (Qn (some (.long r)) True (wpost G cA S D' ad A) A) args s 0 0 A) (F0 m 0 ls []) := by
  obtain ⟨hx, hb, -⟩ := id hC
  intro o0 a0 x1 x2 x4 D H locs ls hi0 hw hl h
  unfold f_X9_reckon at h
  refine lv_aload_n hx hb dX9_reckon_0 rfl (lv_at hl 0 rfl) ?_
  obtain ⟨o83, ho86, h⟩ := rq_i h
  refine r_getR hC hw kc_8 hi0 1 rfl lk_1070 dX9_reckon_1 rfl ho86 (fun a84 hi85 => ?_)
  refine lv_iload_n hx hb dX9_reckon_4 rfl (lv_at hl 1 rfl) ?_
  obtain ⟨hn87, h⟩ := ix_i h
  refine r_iald hC hw hi85 hn87 dX9_reckon_5 ?_
  refine lv_bipush (v := 7) hx hb dX9_reckon_6 (by decide) ?_
  refine lv_iand hx hb dX9_reckon_8 ?_
  refine lv_bipush (v := 7) hx hb dX9_reckon_9 (by decide) ?_
  refine lv_icmp_ne (tgt := 18) hx hb dX9_reckon_11 (by decide) (fun c88 => ?_) (fun c88 => ?_)
  · have h := i_no c88 h
    refine lv_iconst (v := 0) hx hb dX9_reckon_18 (by decide) ?_
    exact w_X9_reckon_19 hC hR o0 a0 x1 x2 x4 (0 : Int32) _ _ _ _ hi0 hw (lv_sub hl [0, 1, 2, 3] rfl) h
  · have h := i_yes c88 h
    refine lv_iconst (v := 1) hx hb dX9_reckon_14 (by decide) ?_
    refine lv_goto (tgt := 19) hx hb dX9_reckon_15 (by decide) ?_
    exact w_X9_reckon_19 hC hR o0 a0 x1 x2 x4 (1 : Int32) _ _ _ _ hi0 hw (lv_sub hl [0, 1, 2, 3] rfl) h
set_option maxHeartbeats 4000000 in
set_option maxRecDepth 100000 in
theorem k_X9_reckon {l : Launch} {G : va_G} {cA : Nat → ClassId} {S : sh} {D D' : dt} {ad : Nat → Nat} (sz : Nat) {o0 a0 : Nat} {x1 : Int32} {x2 : Int64} {x4 : Int64} {r : Int64} (hi0 : Is S ad o0 a0 8) (h : f_X9_reckon S o0 x1 x2 x4 D = some (r, D')) : Co l yX9_reckon (Cond.code yX9_reckon cX9_reckon 14 (some .long) :: tb0) 4 106 [.ref a0, .int x1, .long x2, .long x4] G cA S D ad sz (some (.long r)) True D' := by
  refine Met.ofW (cc := cX9_reckon) (maxL := 14) (ret := (some .long)) (by decide) rfl ?_
  intro p e s m args below meth c s₁ B hml hv
  obtain ⟨rfl, hsz, hP, hK, hD0, hT, hX⟩ := hv
  subst hsz
  have hts := atoms_spec (ws := Cond.code yX9_reckon cX9_reckon 14 (some .long) :: tb0) B.pre
  have hC : Cx RX9 cX9_reckon 14 (some .long) p s m _ meth c := ⟨B.exec, B.bytes, hml, findClass_of_methodNamed B.named, fun w q => hts w (List.mem_cons_of_mem _ q), B.returns, B.notSynchronized⟩
  have hw := Wd.entry hP hK hD0 hT hX
  have hl := lv_entry ([.ref a0, .int x1, .long x2, .long x4]) (n := 14) (Nat.le_of_ble_eq_true rfl)
  rw [lg_entry_eq]
  exact w_X9_reckon_0 hC ⟨Nat.le_refl _, Nat.le_refl _⟩ o0 a0 x1 x2 x4 D _ _ _ hi0 hw hl h
set_option maxHeartbeats 4000000 in
set_option maxRecDepth 100000 in
theorem w_X9_second_0 {r : Int64} {D' : dt} (hC : Cx RX9 cX9_second 2 (some .long) p s m args meth c) (hR : 0 ≤ R.frames ∧ 0 ≤ R.locals) : ∀ (o0 a0 : Nat) (x1 : Int32) (D : dt) (H : Heap) (locs : List Loc) (ls : Array Slot), Is S ad o0 a0 8 → Wd G cA S D ad A s H locs → lv_has ls 2 [(0, .ref a0), (1, .int x1)] → f_X9_second S o0 x1 D = some (r, D') → W p l e R s m args below meth c H locs 0 0 (MQ below (Qn (some (.long r)) True (wpost G cA S D' ad A) A) args s 0 0 A) (F0 m 0 ls []) := by
  obtain ⟨hx, hb, -⟩ := id hC
  intro o0 a0 x1 D H locs ls hi0 hw hl h
  unfold f_X9_second at h
  refine lv_aload_n hx hb dX9_second_0 rfl (lv_at hl 0 rfl) ?_
  obtain ⟨o22, ho25, h⟩ := rq_i h
  refine r_getR hC hw kc_8 hi0 1 rfl lk_1070 dX9_second_1 rfl ho25 (fun a23 hi24 => ?_)
  refine lv_iload_n hx hb dX9_second_4 rfl (lv_at hl 1 rfl) ?_
  obtain ⟨hn26, h⟩ := ix_i h
  refine r_iald hC hw hi24 hn26 dX9_second_5 ?_
  refine lv_bipush (v := 8) hx hb dX9_second_6 (by decide) ?_
  refine lv_iand hx hb dX9_second_8 ?_
  refine lv_if_eq (tgt := 26) hx hb dX9_second_9 (by decide) (fun c27 => ?_) (fun c27 => ?_)
  · have h := i_yes c27 h
    refine lv_aload_n hx hb dX9_second_26 rfl (lv_at hl 0 rfl) ?_
    obtain ⟨o28, ho31, h⟩ := rq_i h
    refine r_getR hC hw kc_8 hi0 5 rfl lk_1074 dX9_second_27 rfl ho31 (fun a29 hi30 => ?_)
    refine lv_iload_n hx hb dX9_second_30 rfl (lv_at hl 1 rfl) ?_
    obtain ⟨hn32, h⟩ := ix_i h
    refine r_iald hC hw hi30 hn32 dX9_second_31 ?_
    refine lv_i2l (v := (gI D o28 x1.toNatClampNeg).toInt64) hx hb dX9_second_32 rfl ?_
    cases h
    exact r_lret hC hw dX9_second_33
  · have h := i_no c27 h
    refine lv_aload_n hx hb dX9_second_12 rfl (lv_at hl 0 rfl) ?_
    obtain ⟨o33, ho36, h⟩ := rq_i h
    refine r_getR hC hw kc_8 hi0 21 rfl lk_1090 dX9_second_13 rfl ho36 (fun a34 hi35 => ?_)
    refine lv_aload_n hx hb dX9_second_16 rfl (lv_at hl 0 rfl) ?_
    obtain ⟨o37, ho40, h⟩ := rq_i h
    refine r_getR hC hw kc_8 hi0 3 rfl lk_1072 dX9_second_17 rfl ho40 (fun a38 hi39 => ?_)
    refine lv_iload_n hx hb dX9_second_20 rfl (lv_at hl 1 rfl) ?_
    obtain ⟨hn41, h⟩ := ix_i h
    refine r_iald hC hw hi39 hn41 dX9_second_21 ?_
    obtain ⟨hn42, h⟩ := ix_i h
    refine r_lald hC hw hi35 hn42 dX9_second_22 ?_
    refine lv_goto (tgt := 33) hx hb dX9_second_23 (by decide) ?_
    cases h
    exact r_lret hC hw dX9_second_33
set_option maxHeartbeats 4000000 in
set_option maxRecDepth 100000 in
theorem k_X9_second {l : Launch} {G : va_G} {cA : Nat → ClassId} {S : sh} {D D' : dt} {ad : Nat → Nat} (sz : Nat) {o0 a0 : Nat} {x1 : Int32} {r : Int64} (hi0 : Is S ad o0 a0 8) (h : f_X9_second S o0 x1 D = some (r, D')) : Co l yX9_second (Cond.code yX9_second cX9_second 2 (some .long) :: tb0) 0 0 [.ref a0, .int x1] G cA S D ad sz (some (.long r)) True D' := by
  refine Met.ofW (cc := cX9_second) (maxL := 2) (ret := (some .long)) (by decide) rfl ?_
  intro p e s m args below meth c s₁ B hml hv
  obtain ⟨rfl, hsz, hP, hK, hD0, hT, hX⟩ := hv
  subst hsz
  have hts := atoms_spec (ws := Cond.code yX9_second cX9_second 2 (some .long) :: tb0) B.pre
  have hC : Cx RX9 cX9_second 2 (some .long) p s m _ meth c := ⟨B.exec, B.bytes, hml, findClass_of_methodNamed B.named, fun w q => hts w (List.mem_cons_of_mem _ q), B.returns, B.notSynchronized⟩
  have hw := Wd.entry hP hK hD0 hT hX
  have hl := lv_entry ([.ref a0, .int x1]) (n := 2) (Nat.le_of_ble_eq_true rfl)
  rw [lg_entry_eq]
  exact w_X9_second_0 hC ⟨Nat.le_refl _, Nat.le_refl _⟩ o0 a0 x1 D _ _ _ hi0 hw hl h
end

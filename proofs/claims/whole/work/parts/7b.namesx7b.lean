theorem dX7_prices_26 : decode cX7_prices 26 = .ok (.invokestatic 119, 3) := by decide +kernel
theorem dX7_prices_29 : decode cX7_prices 29 = .ok (.iadd, 1) := by decide +kernel
theorem dX7_prices_30 : decode cX7_prices 30 = .ok (.aload_n 0, 1) := by decide +kernel
theorem dX7_prices_31 : decode cX7_prices 31 = .ok (.iload_n 1, 1) := by decide +kernel
theorem dX7_prices_32 : decode cX7_prices 32 = .ok (.iload_n 2, 1) := by decide +kernel
theorem dX7_prices_33 : decode cX7_prices 33 = .ok (.iload 5, 2) := by decide +kernel
theorem dX7_prices_35 : decode cX7_prices 35 = .ok (.iload_n 3, 1) := by decide +kernel
theorem dX7_prices_36 : decode cX7_prices 36 = .ok (.invokevirtual 139, 3) := by decide +kernel
theorem dX7_prices_39 : decode cX7_prices 39 = .ok (.bastore, 1) := by decide +kernel
theorem dX7_prices_40 : decode cX7_prices 40 = .ok (.iinc 5 1, 3) := by decide +kernel
theorem dX7_prices_43 : decode cX7_prices 43 = .ok (.goto (-33), 3) := by decide +kernel
theorem dX7_prices_46 : decode cX7_prices 46 = .ok (.iload_n 1, 1) := by decide +kernel
theorem dX7_prices_47 : decode cX7_prices 47 = .ok (.ifCond .ne 7, 3) := by decide +kernel
theorem dX7_prices_50 : decode cX7_prices 50 = .ok (.dconst 0, 1) := by decide +kernel
theorem dX7_prices_51 : decode cX7_prices 51 = .ok (.goto 11, 3) := by decide +kernel
theorem dX7_prices_54 : decode cX7_prices 54 = .ok (.aload_n 0, 1) := by decide +kernel
theorem dX7_prices_55 : decode cX7_prices 55 = .ok (.iload_n 1, 1) := by decide +kernel
theorem dX7_prices_56 : decode cX7_prices 56 = .ok (.iload_n 2, 1) := by decide +kernel
theorem dX7_prices_57 : decode cX7_prices 57 = .ok (.iload_n 3, 1) := by decide +kernel
theorem dX7_prices_58 : decode cX7_prices 58 = .ok (.iconst 0, 1) := by decide +kernel
theorem dX7_prices_59 : decode cX7_prices 59 = .ok (.invokevirtual 143, 3) := by decide +kernel
theorem dX7_prices_62 : decode cX7_prices 62 = .ok (.dstore 5, 2) := by decide +kernel
theorem dX7_prices_64 : decode cX7_prices 64 = .ok (.aload_n 0, 1) := by decide +kernel
theorem dX7_prices_65 : decode cX7_prices 65 = .ok (.getfield 54, 3) := by decide +kernel
theorem dX7_prices_68 : decode cX7_prices 68 = .ok (.bipush 12, 2) := by decide +kernel
theorem dX7_prices_70 : decode cX7_prices 70 = .ok (.bipush 24, 2) := by decide +kernel
theorem dX7_prices_72 : decode cX7_prices 72 = .ok (.iload_n 3, 1) := by decide +kernel
theorem dX7_prices_73 : decode cX7_prices 73 = .ok (.imul, 1) := by decide +kernel
theorem dX7_prices_74 : decode cX7_prices 74 = .ok (.iload_n 1, 1) := by decide +kernel
theorem dX7_prices_75 : decode cX7_prices 75 = .ok (.iadd, 1) := by decide +kernel
theorem dX7_prices_76 : decode cX7_prices 76 = .ok (.imul, 1) := by decide +kernel
theorem dX7_prices_77 : decode cX7_prices 77 = .ok (.iload_n 2, 1) := by decide +kernel
theorem dX7_prices_78 : decode cX7_prices 78 = .ok (.iadd, 1) := by decide +kernel
theorem dX7_prices_79 : decode cX7_prices 79 = .ok (.dload 5, 2) := by decide +kernel
theorem dX7_prices_81 : decode cX7_prices 81 = .ok (.dastore, 1) := by decide +kernel
theorem dX7_prices_82 : decode cX7_prices 82 = .ok (.iconst 0, 1) := by decide +kernel
theorem dX7_prices_83 : decode cX7_prices 83 = .ok (.istore 7, 2) := by decide +kernel
theorem dX7_prices_85 : decode cX7_prices 85 = .ok (.iload 7, 2) := by decide +kernel
theorem dX7_prices_87 : decode cX7_prices 87 = .ok (.iconst 4, 1) := by decide +kernel
theorem dX7_prices_88 : decode cX7_prices 88 = .ok (.if_icmp .ge 126, 3) := by decide +kernel
theorem dX7_prices_91 : decode cX7_prices 91 = .ok (.aload_n 0, 1) := by decide +kernel
theorem dX7_prices_92 : decode cX7_prices 92 = .ok (.iload_n 1, 1) := by decide +kernel
theorem dX7_prices_93 : decode cX7_prices 93 = .ok (.iload_n 2, 1) := by decide +kernel
theorem dX7_prices_94 : decode cX7_prices 94 = .ok (.iload 7, 2) := by decide +kernel
theorem dX7_prices_96 : decode cX7_prices 96 = .ok (.iload_n 3, 1) := by decide +kernel
theorem dX7_prices_97 : decode cX7_prices 97 = .ok (.invokevirtual 131, 3) := by decide +kernel
theorem dX7_prices_100 : decode cX7_prices 100 = .ok (.dstore 8, 2) := by decide +kernel
theorem dX7_prices_102 : decode cX7_prices 102 = .ok (.aload_n 0, 1) := by decide +kernel
theorem dX7_prices_103 : decode cX7_prices 103 = .ok (.iload_n 1, 1) := by decide +kernel
theorem dX7_prices_104 : decode cX7_prices 104 = .ok (.iload_n 2, 1) := by decide +kernel
theorem dX7_prices_105 : decode cX7_prices 105 = .ok (.iload 7, 2) := by decide +kernel
theorem dX7_prices_107 : decode cX7_prices 107 = .ok (.invokestatic 119, 3) := by decide +kernel
theorem dX7_prices_110 : decode cX7_prices 110 = .ok (.iload_n 3, 1) := by decide +kernel
theorem dX7_prices_111 : decode cX7_prices 111 = .ok (.invokevirtual 127, 3) := by decide +kernel
theorem dX7_prices_114 : decode cX7_prices 114 = .ok (.dstore 10, 2) := by decide +kernel
theorem dX7_prices_116 : decode cX7_prices 116 = .ok (.aload_n 0, 1) := by decide +kernel
theorem dX7_prices_117 : decode cX7_prices 117 = .ok (.getfield 51, 3) := by decide +kernel
theorem dX7_prices_120 : decode cX7_prices 120 = .ok (.iload 4, 2) := by decide +kernel
theorem dX7_prices_122 : decode cX7_prices 122 = .ok (.iload_n 1, 1) := by decide +kernel
theorem dX7_prices_123 : decode cX7_prices 123 = .ok (.iload_n 2, 1) := by decide +kernel
theorem dX7_prices_124 : decode cX7_prices 124 = .ok (.iload 7, 2) := by decide +kernel
theorem dX7_prices_126 : decode cX7_prices 126 = .ok (.invokestatic 119, 3) := by decide +kernel
theorem dX7_prices_129 : decode cX7_prices 129 = .ok (.iadd, 1) := by decide +kernel
theorem dX7_prices_130 : decode cX7_prices 130 = .ok (.baload, 1) := by decide +kernel
theorem dX7_prices_131 : decode cX7_prices 131 = .ok (.ifCond .ne 17, 3) := by decide +kernel
theorem dX7_prices_134 : decode cX7_prices 134 = .ok (.dload 10, 2) := by decide +kernel
theorem dX7_prices_136 : decode cX7_prices 136 = .ok (.dconst 0, 1) := by decide +kernel
theorem dX7_prices_137 : decode cX7_prices 137 = .ok (.dcmp .l, 1) := by decide +kernel
theorem dX7_prices_138 : decode cX7_prices 138 = .ok (.ifCond .le 14, 3) := by decide +kernel
theorem dX7_prices_141 : decode cX7_prices 141 = .ok (.dload 8, 2) := by decide +kernel
theorem dX7_prices_143 : decode cX7_prices 143 = .ok (.dconst 0, 1) := by decide +kernel
theorem dX7_prices_144 : decode cX7_prices 144 = .ok (.dcmp .l, 1) := by decide +kernel
theorem dX7_prices_145 : decode cX7_prices 145 = .ok (.ifCond .ne 7, 3) := by decide +kernel
theorem dX7_prices_148 : decode cX7_prices 148 = .ok (.iconst 1, 1) := by decide +kernel
theorem dX7_prices_149 : decode cX7_prices 149 = .ok (.goto 4, 3) := by decide +kernel
theorem dX7_prices_152 : decode cX7_prices 152 = .ok (.iconst 0, 1) := by decide +kernel
theorem dX7_prices_153 : decode cX7_prices 153 = .ok (.istore 12, 2) := by decide +kernel
theorem dX7_prices_155 : decode cX7_prices 155 = .ok (.aload_n 0, 1) := by decide +kernel
theorem dX7_prices_156 : decode cX7_prices 156 = .ok (.getfield 47, 3) := by decide +kernel
theorem dX7_prices_159 : decode cX7_prices 159 = .ok (.iload 4, 2) := by decide +kernel
theorem dX7_prices_161 : decode cX7_prices 161 = .ok (.iload_n 1, 1) := by decide +kernel
theorem dX7_prices_162 : decode cX7_prices 162 = .ok (.iload_n 2, 1) := by decide +kernel
theorem dX7_prices_163 : decode cX7_prices 163 = .ok (.iload 7, 2) := by decide +kernel
theorem dX7_prices_165 : decode cX7_prices 165 = .ok (.invokestatic 119, 3) := by decide +kernel
theorem dX7_prices_168 : decode cX7_prices 168 = .ok (.iadd, 1) := by decide +kernel
theorem dX7_prices_169 : decode cX7_prices 169 = .ok (.iload 12, 2) := by decide +kernel
theorem dX7_prices_171 : decode cX7_prices 171 = .ok (.ifCond .eq 8, 3) := by decide +kernel
theorem dX7_prices_174 : decode cX7_prices 174 = .ok (.dload 10, 2) := by decide +kernel
theorem dX7_prices_176 : decode cX7_prices 176 = .ok (.goto 31, 3) := by decide +kernel
theorem dX7_prices_179 : decode cX7_prices 179 = .ok (.dload 8, 2) := by decide +kernel
theorem dX7_prices_181 : decode cX7_prices 181 = .ok (.dconst 0, 1) := by decide +kernel
theorem dX7_prices_182 : decode cX7_prices 182 = .ok (.dcmp .l, 1) := by decide +kernel
theorem dX7_prices_183 : decode cX7_prices 183 = .ok (.ifCond .ne 7, 3) := by decide +kernel
theorem dX7_prices_186 : decode cX7_prices 186 = .ok (.dconst 0, 1) := by decide +kernel
theorem dX7_prices_187 : decode cX7_prices 187 = .ok (.goto 20, 3) := by decide +kernel
theorem dX7_prices_190 : decode cX7_prices 190 = .ok (.dload 5, 2) := by decide +kernel
theorem dX7_prices_192 : decode cX7_prices 192 = .ok (.dconst 0, 1) := by decide +kernel
theorem dX7_prices_193 : decode cX7_prices 193 = .ok (.dcmp .l, 1) := by decide +kernel
theorem dX7_prices_194 : decode cX7_prices 194 = .ok (.ifCond .le 11, 3) := by decide +kernel
theorem dX7_prices_197 : decode cX7_prices 197 = .ok (.dload 8, 2) := by decide +kernel
theorem dX7_prices_199 : decode cX7_prices 199 = .ok (.dload 5, 2) := by decide +kernel
theorem dX7_prices_201 : decode cX7_prices 201 = .ok (.dmul, 1) := by decide +kernel
theorem dX7_prices_202 : decode cX7_prices 202 = .ok (.goto 5, 3) := by decide +kernel
theorem dX7_prices_205 : decode cX7_prices 205 = .ok (.dload 8, 2) := by decide +kernel
theorem dX7_prices_207 : decode cX7_prices 207 = .ok (.dastore, 1) := by decide +kernel
theorem dX7_prices_208 : decode cX7_prices 208 = .ok (.iinc 7 1, 3) := by decide +kernel
theorem dX7_prices_211 : decode cX7_prices 211 = .ok (.goto (-126), 3) := by decide +kernel
theorem dX7_prices_214 : decode cX7_prices 214 = .ok (.return_, 1) := by decide +kernel
theorem dX7_shareOf_0 : decode cX7_shareOf 0 = .ok (.lconst 0, 1) := by decide +kernel
theorem dX7_shareOf_1 : decode cX7_shareOf 1 = .ok (.lstore 4, 2) := by decide +kernel
theorem dX7_shareOf_3 : decode cX7_shareOf 3 = .ok (.lconst 0, 1) := by decide +kernel
theorem dX7_shareOf_4 : decode cX7_shareOf 4 = .ok (.lstore 6, 2) := by decide +kernel
theorem dX7_shareOf_6 : decode cX7_shareOf 6 = .ok (.iconst 0, 1) := by decide +kernel
theorem dX7_shareOf_7 : decode cX7_shareOf 7 = .ok (.istore 8, 2) := by decide +kernel
theorem dX7_shareOf_9 : decode cX7_shareOf 9 = .ok (.dconst 0, 1) := by decide +kernel
theorem dX7_shareOf_10 : decode cX7_shareOf 10 = .ok (.dstore 9, 2) := by decide +kernel
theorem dX7_shareOf_12 : decode cX7_shareOf 12 = .ok (.iconst 0, 1) := by decide +kernel
theorem dX7_shareOf_13 : decode cX7_shareOf 13 = .ok (.istore 11, 2) := by decide +kernel
theorem dX7_shareOf_15 : decode cX7_shareOf 15 = .ok (.iload 11, 2) := by decide +kernel
theorem dX7_shareOf_17 : decode cX7_shareOf 17 = .ok (.iconst 3, 1) := by decide +kernel
theorem dX7_shareOf_18 : decode cX7_shareOf 18 = .ok (.if_icmp .ge 153, 3) := by decide +kernel
theorem dX7_shareOf_21 : decode cX7_shareOf 21 = .ok (.lconst 0, 1) := by decide +kernel
theorem dX7_shareOf_22 : decode cX7_shareOf 22 = .ok (.lstore 12, 2) := by decide +kernel
theorem dX7_shareOf_24 : decode cX7_shareOf 24 = .ok (.iconst 0, 1) := by decide +kernel
theorem dX7_shareOf_25 : decode cX7_shareOf 25 = .ok (.istore 14, 2) := by decide +kernel
theorem dX7_shareOf_27 : decode cX7_shareOf 27 = .ok (.iload 14, 2) := by decide +kernel
theorem dX7_shareOf_29 : decode cX7_shareOf 29 = .ok (.iconst 4, 1) := by decide +kernel
theorem dX7_shareOf_30 : decode cX7_shareOf 30 = .ok (.if_icmp .ge 32, 3) := by decide +kernel
theorem dX7_shareOf_33 : decode cX7_shareOf 33 = .ok (.lload 12, 2) := by decide +kernel
theorem dX7_shareOf_35 : decode cX7_shareOf 35 = .ok (.aload_n 0, 1) := by decide +kernel
theorem dX7_shareOf_36 : decode cX7_shareOf 36 = .ok (.getfield 44, 3) := by decide +kernel
theorem dX7_shareOf_39 : decode cX7_shareOf 39 = .ok (.bipush 12, 2) := by decide +kernel
theorem dX7_shareOf_41 : decode cX7_shareOf 41 = .ok (.iload_n 3, 1) := by decide +kernel
theorem dX7_shareOf_42 : decode cX7_shareOf 42 = .ok (.imul, 1) := by decide +kernel
theorem dX7_shareOf_43 : decode cX7_shareOf 43 = .ok (.iconst 4, 1) := by decide +kernel
theorem dX7_shareOf_44 : decode cX7_shareOf 44 = .ok (.iload 11, 2) := by decide +kernel
theorem dX7_shareOf_46 : decode cX7_shareOf 46 = .ok (.imul, 1) := by decide +kernel
theorem dX7_shareOf_47 : decode cX7_shareOf 47 = .ok (.iadd, 1) := by decide +kernel
theorem dX7_shareOf_48 : decode cX7_shareOf 48 = .ok (.iload 14, 2) := by decide +kernel
theorem dX7_shareOf_50 : decode cX7_shareOf 50 = .ok (.iadd, 1) := by decide +kernel
theorem dX7_shareOf_51 : decode cX7_shareOf 51 = .ok (.iaload, 1) := by decide +kernel
theorem dX7_shareOf_52 : decode cX7_shareOf 52 = .ok (.i2l, 1) := by decide +kernel
theorem dX7_shareOf_53 : decode cX7_shareOf 53 = .ok (.ladd, 1) := by decide +kernel
theorem dX7_shareOf_54 : decode cX7_shareOf 54 = .ok (.lstore 12, 2) := by decide +kernel
theorem dX7_shareOf_56 : decode cX7_shareOf 56 = .ok (.iinc 14 1, 3) := by decide +kernel
theorem dX7_shareOf_59 : decode cX7_shareOf 59 = .ok (.goto (-32), 3) := by decide +kernel
theorem dX7_shareOf_62 : decode cX7_shareOf 62 = .ok (.iload_n 1, 1) := by decide +kernel
theorem dX7_shareOf_63 : decode cX7_shareOf 63 = .ok (.iconst 2, 1) := by decide +kernel
theorem dX7_shareOf_64 : decode cX7_shareOf 64 = .ok (.if_icmp .lt 11, 3) := by decide +kernel
theorem dX7_shareOf_67 : decode cX7_shareOf 67 = .ok (.iload_n 1, 1) := by decide +kernel
theorem dX7_shareOf_68 : decode cX7_shareOf 68 = .ok (.iload 11, 2) := by decide +kernel
theorem dX7_shareOf_70 : decode cX7_shareOf 70 = .ok (.iconst 2, 1) := by decide +kernel
theorem dX7_shareOf_71 : decode cX7_shareOf 71 = .ok (.iadd, 1) := by decide +kernel
theorem dX7_shareOf_72 : decode cX7_shareOf 72 = .ok (.if_icmp .ne 7, 3) := by decide +kernel
theorem dX7_shareOf_75 : decode cX7_shareOf 75 = .ok (.iconst 1, 1) := by decide +kernel
theorem dX7_shareOf_76 : decode cX7_shareOf 76 = .ok (.goto 4, 3) := by decide +kernel
theorem dX7_shareOf_79 : decode cX7_shareOf 79 = .ok (.iconst 0, 1) := by decide +kernel
theorem dX7_shareOf_80 : decode cX7_shareOf 80 = .ok (.istore 14, 2) := by decide +kernel
theorem dX7_shareOf_82 : decode cX7_shareOf 82 = .ok (.lload 4, 2) := by decide +kernel
theorem dX7_shareOf_84 : decode cX7_shareOf 84 = .ok (.iload 14, 2) := by decide +kernel
theorem dX7_shareOf_86 : decode cX7_shareOf 86 = .ok (.ifCond .eq 8, 3) := by decide +kernel
theorem dX7_shareOf_89 : decode cX7_shareOf 89 = .ok (.lload 12, 2) := by decide +kernel
theorem dX7_shareOf_91 : decode cX7_shareOf 91 = .ok (.goto 4, 3) := by decide +kernel
theorem dX7_shareOf_94 : decode cX7_shareOf 94 = .ok (.lconst 0, 1) := by decide +kernel
theorem dX7_shareOf_95 : decode cX7_shareOf 95 = .ok (.ladd, 1) := by decide +kernel
theorem dX7_shareOf_96 : decode cX7_shareOf 96 = .ok (.lstore 4, 2) := by decide +kernel
theorem dX7_shareOf_98 : decode cX7_shareOf 98 = .ok (.lload 6, 2) := by decide +kernel
theorem dX7_shareOf_100 : decode cX7_shareOf 100 = .ok (.iload 14, 2) := by decide +kernel
theorem dX7_shareOf_102 : decode cX7_shareOf 102 = .ok (.ifCond .eq 23, 3) := by decide +kernel
theorem dX7_shareOf_105 : decode cX7_shareOf 105 = .ok (.aload_n 0, 1) := by decide +kernel
theorem dX7_shareOf_106 : decode cX7_shareOf 106 = .ok (.getfield 44, 3) := by decide +kernel
theorem dX7_shareOf_109 : decode cX7_shareOf 109 = .ok (.bipush 12, 2) := by decide +kernel
theorem dX7_shareOf_111 : decode cX7_shareOf 111 = .ok (.iload_n 3, 1) := by decide +kernel
theorem dX7_shareOf_112 : decode cX7_shareOf 112 = .ok (.imul, 1) := by decide +kernel
theorem dX7_shareOf_113 : decode cX7_shareOf 113 = .ok (.iconst 4, 1) := by decide +kernel
theorem dX7_shareOf_114 : decode cX7_shareOf 114 = .ok (.iload 11, 2) := by decide +kernel
theorem dX7_shareOf_116 : decode cX7_shareOf 116 = .ok (.imul, 1) := by decide +kernel
theorem dX7_shareOf_117 : decode cX7_shareOf 117 = .ok (.iadd, 1) := by decide +kernel
theorem dX7_shareOf_118 : decode cX7_shareOf 118 = .ok (.iload_n 2, 1) := by decide +kernel
theorem dX7_shareOf_119 : decode cX7_shareOf 119 = .ok (.iadd, 1) := by decide +kernel
theorem dX7_shareOf_120 : decode cX7_shareOf 120 = .ok (.iaload, 1) := by decide +kernel
theorem dX7_shareOf_121 : decode cX7_shareOf 121 = .ok (.i2l, 1) := by decide +kernel
theorem dX7_shareOf_122 : decode cX7_shareOf 122 = .ok (.goto 4, 3) := by decide +kernel
theorem dX7_shareOf_125 : decode cX7_shareOf 125 = .ok (.lconst 0, 1) := by decide +kernel
theorem dX7_shareOf_126 : decode cX7_shareOf 126 = .ok (.ladd, 1) := by decide +kernel
theorem dX7_shareOf_127 : decode cX7_shareOf 127 = .ok (.lstore 6, 2) := by decide +kernel
theorem dX7_shareOf_129 : decode cX7_shareOf 129 = .ok (.lload 12, 2) := by decide +kernel
theorem dX7_shareOf_131 : decode cX7_shareOf 131 = .ok (.lconst 0, 1) := by decide +kernel
theorem dX7_shareOf_132 : decode cX7_shareOf 132 = .ok (.lcmp, 1) := by decide +kernel
theorem dX7_shareOf_133 : decode cX7_shareOf 133 = .ok (.ifCond .le 32, 3) := by decide +kernel
theorem dX7_shareOf_136 : decode cX7_shareOf 136 = .ok (.iinc 8 1, 3) := by decide +kernel
theorem dX7_shareOf_139 : decode cX7_shareOf 139 = .ok (.dload 9, 2) := by decide +kernel
theorem dX7_shareOf_141 : decode cX7_shareOf 141 = .ok (.aload_n 0, 1) := by decide +kernel
theorem dX7_shareOf_142 : decode cX7_shareOf 142 = .ok (.getfield 44, 3) := by decide +kernel
theorem dX7_shareOf_145 : decode cX7_shareOf 145 = .ok (.bipush 12, 2) := by decide +kernel
theorem dX7_shareOf_147 : decode cX7_shareOf 147 = .ok (.iload_n 3, 1) := by decide +kernel
theorem dX7_shareOf_148 : decode cX7_shareOf 148 = .ok (.imul, 1) := by decide +kernel
theorem dX7_shareOf_149 : decode cX7_shareOf 149 = .ok (.iconst 4, 1) := by decide +kernel
theorem dX7_shareOf_150 : decode cX7_shareOf 150 = .ok (.iload 11, 2) := by decide +kernel
theorem dX7_shareOf_152 : decode cX7_shareOf 152 = .ok (.imul, 1) := by decide +kernel
theorem dX7_shareOf_153 : decode cX7_shareOf 153 = .ok (.iadd, 1) := by decide +kernel
theorem dX7_shareOf_154 : decode cX7_shareOf 154 = .ok (.iload_n 2, 1) := by decide +kernel
theorem dX7_shareOf_155 : decode cX7_shareOf 155 = .ok (.iadd, 1) := by decide +kernel
theorem dX7_shareOf_156 : decode cX7_shareOf 156 = .ok (.iaload, 1) := by decide +kernel
theorem dX7_shareOf_157 : decode cX7_shareOf 157 = .ok (.i2d, 1) := by decide +kernel
theorem dX7_shareOf_158 : decode cX7_shareOf 158 = .ok (.lload 12, 2) := by decide +kernel
theorem dX7_shareOf_160 : decode cX7_shareOf 160 = .ok (.l2d, 1) := by decide +kernel
theorem dX7_shareOf_161 : decode cX7_shareOf 161 = .ok (.ddiv, 1) := by decide +kernel
theorem dX7_shareOf_162 : decode cX7_shareOf 162 = .ok (.dadd, 1) := by decide +kernel
theorem dX7_shareOf_163 : decode cX7_shareOf 163 = .ok (.dstore 9, 2) := by decide +kernel
theorem dX7_shareOf_165 : decode cX7_shareOf 165 = .ok (.iinc 11 1, 3) := by decide +kernel
theorem dX7_shareOf_168 : decode cX7_shareOf 168 = .ok (.goto (-153), 3) := by decide +kernel
theorem dX7_shareOf_171 : decode cX7_shareOf 171 = .ok (.lload 4, 2) := by decide +kernel
theorem dX7_shareOf_173 : decode cX7_shareOf 173 = .ok (.lconst 0, 1) := by decide +kernel
theorem dX7_shareOf_174 : decode cX7_shareOf 174 = .ok (.lcmp, 1) := by decide +kernel
theorem dX7_shareOf_175 : decode cX7_shareOf 175 = .ok (.ifCond .ne 9, 3) := by decide +kernel
theorem dX7_shareOf_178 : decode cX7_shareOf 178 = .ok (.ldc2_w 147, 3) := by decide +kernel
theorem dX7_shareOf_181 : decode cX7_shareOf 181 = .ok (.goto 24, 3) := by decide +kernel
theorem dX7_shareOf_184 : decode cX7_shareOf 184 = .ok (.iload_n 1, 1) := by decide +kernel
theorem dX7_shareOf_185 : decode cX7_shareOf 185 = .ok (.iconst 1, 1) := by decide +kernel
theorem dX7_shareOf_186 : decode cX7_shareOf 186 = .ok (.if_icmp .ne 12, 3) := by decide +kernel
theorem dX7_shareOf_189 : decode cX7_shareOf 189 = .ok (.dload 9, 2) := by decide +kernel
theorem dX7_shareOf_191 : decode cX7_shareOf 191 = .ok (.iload 8, 2) := by decide +kernel
theorem dX7_shareOf_193 : decode cX7_shareOf 193 = .ok (.i2d, 1) := by decide +kernel
theorem dX7_shareOf_194 : decode cX7_shareOf 194 = .ok (.ddiv, 1) := by decide +kernel
theorem dX7_shareOf_195 : decode cX7_shareOf 195 = .ok (.goto 10, 3) := by decide +kernel
theorem dX7_shareOf_198 : decode cX7_shareOf 198 = .ok (.lload 6, 2) := by decide +kernel
theorem dX7_shareOf_200 : decode cX7_shareOf 200 = .ok (.l2d, 1) := by decide +kernel
theorem dX7_shareOf_201 : decode cX7_shareOf 201 = .ok (.lload 4, 2) := by decide +kernel
theorem dX7_shareOf_203 : decode cX7_shareOf 203 = .ok (.l2d, 1) := by decide +kernel
theorem dX7_shareOf_204 : decode cX7_shareOf 204 = .ok (.ddiv, 1) := by decide +kernel
theorem dX7_shareOf_205 : decode cX7_shareOf 205 = .ok (.dreturn, 1) := by decide +kernel
set_option maxRecDepth 20000 in
theorem ggX7_reckons_X7_prices : GoodIn wsX7_reckons wsX7_prices := goodIn_r _ [16, 17, 3, 18, 19, 20, 15, 21, 22, 23, 24, 25, 26, 27, 28, 29, 30, 31, 32, 33, 34, 35, 36, 37, 38, 39, 40, 41, 42, 43, 44, 45, 46, 53, 54, 55, 56, 57, 58, 59, 60, 61, 62, 63, 64, 65, 66, 67, 68, 69, 70, 71, 72, 73, 74, 75, 76, 77, 78, 79, 80, 81, 82, 83, 84, 85] (by decide +kernel) (by decide +kernel)
set_option maxRecDepth 20000 in
theorem gX7_reckons_X7_prices : GoodIn wsX7_reckons (wsV RX7 149 RX7 yX7_prices wsX7_prices) := goodIn_app (goodIn_of _ (by decide +kernel)) ggX7_reckons_X7_prices
set_option maxRecDepth 20000 in
theorem ggX7_reckons_X7_shareOf : GoodIn wsX7_reckons wsX7_shareOf := goodIn_r _ [50, 51, 52, 53, 54, 55, 56, 57, 58, 59, 60, 61, 62, 63, 64, 65, 66, 67, 68, 69, 70, 71, 72, 73, 74, 75, 76, 77, 78, 79, 80, 81, 82, 83, 84, 85] (by decide +kernel) (by decide +kernel)
set_option maxRecDepth 20000 in
theorem gX7_reckons_X7_shareOf : GoodIn wsX7_reckons (wsV RX7 153 RX7 yX7_shareOf wsX7_shareOf) := goodIn_app (goodIn_of _ (by decide +kernel)) ggX7_reckons_X7_shareOf
theorem dX7_reckons_0 : decode cX7_reckons 0 = .ok (.bipush 24, 2) := by decide +kernel
theorem dX7_reckons_2 : decode cX7_reckons 2 = .ok (.iload_n 2, 1) := by decide +kernel
theorem dX7_reckons_3 : decode cX7_reckons 3 = .ok (.imul, 1) := by decide +kernel
theorem dX7_reckons_4 : decode cX7_reckons 4 = .ok (.iload_n 1, 1) := by decide +kernel
theorem dX7_reckons_5 : decode cX7_reckons 5 = .ok (.iadd, 1) := by decide +kernel
theorem dX7_reckons_6 : decode cX7_reckons 6 = .ok (.istore_n 3, 1) := by decide +kernel
theorem dX7_reckons_7 : decode cX7_reckons 7 = .ok (.iconst 0, 1) := by decide +kernel
theorem dX7_reckons_8 : decode cX7_reckons 8 = .ok (.istore 4, 2) := by decide +kernel
theorem dX7_reckons_10 : decode cX7_reckons 10 = .ok (.iload 4, 2) := by decide +kernel
theorem dX7_reckons_12 : decode cX7_reckons 12 = .ok (.aload_n 0, 1) := by decide +kernel
theorem dX7_reckons_13 : decode cX7_reckons 13 = .ok (.getfield 98, 3) := by decide +kernel
theorem dX7_reckons_16 : decode cX7_reckons 16 = .ok (.if_icmp .ge 17, 3) := by decide +kernel
theorem dX7_reckons_19 : decode cX7_reckons 19 = .ok (.aload_n 0, 1) := by decide +kernel
theorem dX7_reckons_20 : decode cX7_reckons 20 = .ok (.iload_n 1, 1) := by decide +kernel
theorem dX7_reckons_21 : decode cX7_reckons 21 = .ok (.iload 4, 2) := by decide +kernel
theorem dX7_reckons_23 : decode cX7_reckons 23 = .ok (.iload_n 2, 1) := by decide +kernel
theorem dX7_reckons_24 : decode cX7_reckons 24 = .ok (.invokevirtual 149, 3) := by decide +kernel
theorem dX7_reckons_27 : decode cX7_reckons 27 = .ok (.iinc 4 1, 3) := by decide +kernel
theorem dX7_reckons_30 : decode cX7_reckons 30 = .ok (.goto (-20), 3) := by decide +kernel
theorem dX7_reckons_33 : decode cX7_reckons 33 = .ok (.iconst 0, 1) := by decide +kernel
theorem dX7_reckons_34 : decode cX7_reckons 34 = .ok (.istore 4, 2) := by decide +kernel
theorem dX7_reckons_36 : decode cX7_reckons 36 = .ok (.iload 4, 2) := by decide +kernel
theorem dX7_reckons_38 : decode cX7_reckons 38 = .ok (.iconst 4, 1) := by decide +kernel
theorem dX7_reckons_39 : decode cX7_reckons 39 = .ok (.if_icmp .ge 108, 3) := by decide +kernel
theorem dX7_reckons_42 : decode cX7_reckons 42 = .ok (.iconst 0, 1) := by decide +kernel
theorem dX7_reckons_43 : decode cX7_reckons 43 = .ok (.istore 5, 2) := by decide +kernel
theorem dX7_reckons_45 : decode cX7_reckons 45 = .ok (.dconst 0, 1) := by decide +kernel
theorem dX7_reckons_46 : decode cX7_reckons 46 = .ok (.dstore 6, 2) := by decide +kernel
theorem dX7_reckons_48 : decode cX7_reckons 48 = .ok (.iconst 0, 1) := by decide +kernel
theorem dX7_reckons_49 : decode cX7_reckons 49 = .ok (.istore 8, 2) := by decide +kernel
theorem dX7_reckons_51 : decode cX7_reckons 51 = .ok (.iload 8, 2) := by decide +kernel
theorem dX7_reckons_53 : decode cX7_reckons 53 = .ok (.aload_n 0, 1) := by decide +kernel
theorem dX7_reckons_54 : decode cX7_reckons 54 = .ok (.getfield 98, 3) := by decide +kernel
theorem dX7_reckons_57 : decode cX7_reckons 57 = .ok (.if_icmp .ge 58, 3) := by decide +kernel
theorem dX7_reckons_60 : decode cX7_reckons 60 = .ok (.aload_n 0, 1) := by decide +kernel
theorem dX7_reckons_61 : decode cX7_reckons 61 = .ok (.getfield 7, 3) := by decide +kernel
theorem dX7_reckons_64 : decode cX7_reckons 64 = .ok (.iload 8, 2) := by decide +kernel
theorem dX7_reckons_66 : decode cX7_reckons 66 = .ok (.iaload, 1) := by decide +kernel
theorem dX7_reckons_67 : decode cX7_reckons 67 = .ok (.iload 4, 2) := by decide +kernel
theorem dX7_reckons_69 : decode cX7_reckons 69 = .ok (.if_icmp .ne 40, 3) := by decide +kernel
theorem dX7_reckons_72 : decode cX7_reckons 72 = .ok (.aload_n 0, 1) := by decide +kernel
theorem dX7_reckons_73 : decode cX7_reckons 73 = .ok (.getfield 54, 3) := by decide +kernel
theorem dX7_reckons_76 : decode cX7_reckons 76 = .ok (.bipush 12, 2) := by decide +kernel
theorem dX7_reckons_78 : decode cX7_reckons 78 = .ok (.iload_n 3, 1) := by decide +kernel
theorem dX7_reckons_79 : decode cX7_reckons 79 = .ok (.imul, 1) := by decide +kernel
theorem dX7_reckons_80 : decode cX7_reckons 80 = .ok (.iload 8, 2) := by decide +kernel
theorem dX7_reckons_82 : decode cX7_reckons 82 = .ok (.iadd, 1) := by decide +kernel
theorem dX7_reckons_83 : decode cX7_reckons 83 = .ok (.daload, 1) := by decide +kernel
theorem dX7_reckons_84 : decode cX7_reckons 84 = .ok (.dconst 0, 1) := by decide +kernel
theorem dX7_reckons_85 : decode cX7_reckons 85 = .ok (.dcmp .l, 1) := by decide +kernel
theorem dX7_reckons_86 : decode cX7_reckons 86 = .ok (.ifCond .le 23, 3) := by decide +kernel
theorem dX7_reckons_89 : decode cX7_reckons 89 = .ok (.iinc 5 1, 3) := by decide +kernel
theorem dX7_reckons_92 : decode cX7_reckons 92 = .ok (.dload 6, 2) := by decide +kernel
theorem dX7_reckons_94 : decode cX7_reckons 94 = .ok (.aload_n 0, 1) := by decide +kernel
theorem dX7_reckons_95 : decode cX7_reckons 95 = .ok (.getfield 54, 3) := by decide +kernel
theorem dX7_reckons_98 : decode cX7_reckons 98 = .ok (.bipush 12, 2) := by decide +kernel
theorem dX7_reckons_100 : decode cX7_reckons 100 = .ok (.iload_n 3, 1) := by decide +kernel
theorem dX7_reckons_101 : decode cX7_reckons 101 = .ok (.imul, 1) := by decide +kernel
theorem dX7_reckons_102 : decode cX7_reckons 102 = .ok (.iload 8, 2) := by decide +kernel
theorem dX7_reckons_104 : decode cX7_reckons 104 = .ok (.iadd, 1) := by decide +kernel
theorem dX7_reckons_105 : decode cX7_reckons 105 = .ok (.daload, 1) := by decide +kernel
theorem dX7_reckons_106 : decode cX7_reckons 106 = .ok (.dadd, 1) := by decide +kernel
theorem dX7_reckons_107 : decode cX7_reckons 107 = .ok (.dstore 6, 2) := by decide +kernel
theorem dX7_reckons_109 : decode cX7_reckons 109 = .ok (.iinc 8 1, 3) := by decide +kernel
theorem dX7_reckons_112 : decode cX7_reckons 112 = .ok (.goto (-61), 3) := by decide +kernel
theorem dX7_reckons_115 : decode cX7_reckons 115 = .ok (.aload_n 0, 1) := by decide +kernel
theorem dX7_reckons_116 : decode cX7_reckons 116 = .ok (.getfield 57, 3) := by decide +kernel
theorem dX7_reckons_119 : decode cX7_reckons 119 = .ok (.iconst 4, 1) := by decide +kernel
theorem dX7_reckons_120 : decode cX7_reckons 120 = .ok (.iload_n 3, 1) := by decide +kernel
theorem dX7_reckons_121 : decode cX7_reckons 121 = .ok (.imul, 1) := by decide +kernel
theorem dX7_reckons_122 : decode cX7_reckons 122 = .ok (.iload 4, 2) := by decide +kernel
theorem dX7_reckons_124 : decode cX7_reckons 124 = .ok (.iadd, 1) := by decide +kernel
theorem dX7_reckons_125 : decode cX7_reckons 125 = .ok (.iload 5, 2) := by decide +kernel
theorem dX7_reckons_127 : decode cX7_reckons 127 = .ok (.ifCond .ne 7, 3) := by decide +kernel
theorem dX7_reckons_130 : decode cX7_reckons 130 = .ok (.dconst 1, 1) := by decide +kernel
theorem dX7_reckons_131 : decode cX7_reckons 131 = .ok (.goto 9, 3) := by decide +kernel
theorem dX7_reckons_134 : decode cX7_reckons 134 = .ok (.dload 6, 2) := by decide +kernel
theorem dX7_reckons_136 : decode cX7_reckons 136 = .ok (.iload 5, 2) := by decide +kernel
theorem dX7_reckons_138 : decode cX7_reckons 138 = .ok (.i2d, 1) := by decide +kernel
theorem dX7_reckons_139 : decode cX7_reckons 139 = .ok (.ddiv, 1) := by decide +kernel
theorem dX7_reckons_140 : decode cX7_reckons 140 = .ok (.dastore, 1) := by decide +kernel
theorem dX7_reckons_141 : decode cX7_reckons 141 = .ok (.iinc 4 1, 3) := by decide +kernel
theorem dX7_reckons_144 : decode cX7_reckons 144 = .ok (.goto (-108), 3) := by decide +kernel
theorem dX7_reckons_147 : decode cX7_reckons 147 = .ok (.iconst 0, 1) := by decide +kernel
theorem dX7_reckons_148 : decode cX7_reckons 148 = .ok (.istore 4, 2) := by decide +kernel
theorem dX7_reckons_150 : decode cX7_reckons 150 = .ok (.iload 4, 2) := by decide +kernel
theorem dX7_reckons_152 : decode cX7_reckons 152 = .ok (.iconst 5, 1) := by decide +kernel
theorem dX7_reckons_153 : decode cX7_reckons 153 = .ok (.if_icmp .ge 90, 3) := by decide +kernel
theorem dX7_reckons_156 : decode cX7_reckons 156 = .ok (.dconst 0, 1) := by decide +kernel
theorem dX7_reckons_157 : decode cX7_reckons 157 = .ok (.dstore 5, 2) := by decide +kernel
theorem dX7_reckons_159 : decode cX7_reckons 159 = .ok (.iconst 0, 1) := by decide +kernel
theorem dX7_reckons_160 : decode cX7_reckons 160 = .ok (.istore 7, 2) := by decide +kernel
theorem dX7_reckons_162 : decode cX7_reckons 162 = .ok (.iload 7, 2) := by decide +kernel
theorem dX7_reckons_164 : decode cX7_reckons 164 = .ok (.iconst 4, 1) := by decide +kernel
theorem dX7_reckons_165 : decode cX7_reckons 165 = .ok (.if_icmp .ge 35, 3) := by decide +kernel
theorem dX7_reckons_168 : decode cX7_reckons 168 = .ok (.dload 5, 2) := by decide +kernel
theorem dX7_reckons_170 : decode cX7_reckons 170 = .ok (.aload_n 0, 1) := by decide +kernel
theorem dX7_reckons_171 : decode cX7_reckons 171 = .ok (.iload 4, 2) := by decide +kernel
theorem dX7_reckons_173 : decode cX7_reckons 173 = .ok (.iload 7, 2) := by decide +kernel
theorem dX7_reckons_175 : decode cX7_reckons 175 = .ok (.iload_n 1, 1) := by decide +kernel
theorem dX7_reckons_176 : decode cX7_reckons 176 = .ok (.invokevirtual 153, 3) := by decide +kernel
theorem dX7_reckons_179 : decode cX7_reckons 179 = .ok (.aload_n 0, 1) := by decide +kernel
theorem dX7_reckons_180 : decode cX7_reckons 180 = .ok (.getfield 57, 3) := by decide +kernel
theorem dX7_reckons_183 : decode cX7_reckons 183 = .ok (.iconst 4, 1) := by decide +kernel
theorem dX7_reckons_184 : decode cX7_reckons 184 = .ok (.iload_n 3, 1) := by decide +kernel
theorem dX7_reckons_185 : decode cX7_reckons 185 = .ok (.imul, 1) := by decide +kernel
theorem dX7_reckons_186 : decode cX7_reckons 186 = .ok (.iload 7, 2) := by decide +kernel
theorem dX7_reckons_188 : decode cX7_reckons 188 = .ok (.iadd, 1) := by decide +kernel
theorem dX7_reckons_189 : decode cX7_reckons 189 = .ok (.daload, 1) := by decide +kernel
theorem dX7_reckons_190 : decode cX7_reckons 190 = .ok (.dmul, 1) := by decide +kernel
theorem dX7_reckons_191 : decode cX7_reckons 191 = .ok (.dadd, 1) := by decide +kernel
theorem dX7_reckons_192 : decode cX7_reckons 192 = .ok (.dstore 5, 2) := by decide +kernel
theorem dX7_reckons_194 : decode cX7_reckons 194 = .ok (.iinc 7 1, 3) := by decide +kernel
theorem dX7_reckons_197 : decode cX7_reckons 197 = .ok (.goto (-35), 3) := by decide +kernel
theorem dX7_reckons_200 : decode cX7_reckons 200 = .ok (.aload_n 0, 1) := by decide +kernel
theorem dX7_reckons_201 : decode cX7_reckons 201 = .ok (.getfield 60, 3) := by decide +kernel
theorem dX7_reckons_204 : decode cX7_reckons 204 = .ok (.iconst 5, 1) := by decide +kernel
theorem dX7_reckons_205 : decode cX7_reckons 205 = .ok (.iload_n 3, 1) := by decide +kernel
theorem dX7_reckons_206 : decode cX7_reckons 206 = .ok (.imul, 1) := by decide +kernel
theorem dX7_reckons_207 : decode cX7_reckons 207 = .ok (.iload 4, 2) := by decide +kernel
theorem dX7_reckons_209 : decode cX7_reckons 209 = .ok (.iadd, 1) := by decide +kernel
theorem dX7_reckons_210 : decode cX7_reckons 210 = .ok (.iload_n 1, 1) := by decide +kernel
theorem dX7_reckons_211 : decode cX7_reckons 211 = .ok (.ifCond .ne 9, 3) := by decide +kernel
theorem dX7_reckons_214 : decode cX7_reckons 214 = .ok (.ldc2_w 157, 3) := by decide +kernel
theorem dX7_reckons_217 : decode cX7_reckons 217 = .ok (.goto 19, 3) := by decide +kernel
theorem dX7_reckons_220 : decode cX7_reckons 220 = .ok (.aload_n 0, 1) := by decide +kernel
theorem dX7_reckons_221 : decode cX7_reckons 221 = .ok (.getfield 60, 3) := by decide +kernel
theorem dX7_reckons_224 : decode cX7_reckons 224 = .ok (.iconst 5, 1) := by decide +kernel
theorem dX7_reckons_225 : decode cX7_reckons 225 = .ok (.iload_n 3, 1) := by decide +kernel
theorem dX7_reckons_226 : decode cX7_reckons 226 = .ok (.iconst 1, 1) := by decide +kernel
theorem dX7_reckons_227 : decode cX7_reckons 227 = .ok (.isub, 1) := by decide +kernel
theorem dX7_reckons_228 : decode cX7_reckons 228 = .ok (.imul, 1) := by decide +kernel
theorem dX7_reckons_229 : decode cX7_reckons 229 = .ok (.iload 4, 2) := by decide +kernel
theorem dX7_reckons_231 : decode cX7_reckons 231 = .ok (.iadd, 1) := by decide +kernel
theorem dX7_reckons_232 : decode cX7_reckons 232 = .ok (.daload, 1) := by decide +kernel
theorem dX7_reckons_233 : decode cX7_reckons 233 = .ok (.dload 5, 2) := by decide +kernel
theorem dX7_reckons_235 : decode cX7_reckons 235 = .ok (.dmul, 1) := by decide +kernel
theorem dX7_reckons_236 : decode cX7_reckons 236 = .ok (.dastore, 1) := by decide +kernel
theorem dX7_reckons_237 : decode cX7_reckons 237 = .ok (.iinc 4 1, 3) := by decide +kernel
theorem dX7_reckons_240 : decode cX7_reckons 240 = .ok (.goto (-90), 3) := by decide +kernel
theorem dX7_reckons_243 : decode cX7_reckons 243 = .ok (.aload_n 0, 1) := by decide +kernel
theorem dX7_reckons_244 : decode cX7_reckons 244 = .ok (.getfield 60, 3) := by decide +kernel
theorem dX7_reckons_247 : decode cX7_reckons 247 = .ok (.iconst 5, 1) := by decide +kernel
theorem dX7_reckons_248 : decode cX7_reckons 248 = .ok (.iload_n 3, 1) := by decide +kernel
theorem dX7_reckons_249 : decode cX7_reckons 249 = .ok (.imul, 1) := by decide +kernel
theorem dX7_reckons_250 : decode cX7_reckons 250 = .ok (.daload, 1) := by decide +kernel
theorem dX7_reckons_251 : decode cX7_reckons 251 = .ok (.ldc2_w 159, 3) := by decide +kernel
theorem dX7_reckons_254 : decode cX7_reckons 254 = .ok (.dmul, 1) := by decide +kernel
theorem dX7_reckons_255 : decode cX7_reckons 255 = .ok (.ldc2_w 161, 3) := by decide +kernel
theorem dX7_reckons_258 : decode cX7_reckons 258 = .ok (.dadd, 1) := by decide +kernel
theorem dX7_reckons_259 : decode cX7_reckons 259 = .ok (.dstore 4, 2) := by decide +kernel
theorem dX7_reckons_261 : decode cX7_reckons 261 = .ok (.aload_n 0, 1) := by decide +kernel
theorem dX7_reckons_262 : decode cX7_reckons 262 = .ok (.getfield 63, 3) := by decide +kernel
theorem dX7_reckons_265 : decode cX7_reckons 265 = .ok (.iload_n 3, 1) := by decide +kernel
theorem dX7_reckons_266 : decode cX7_reckons 266 = .ok (.dload 4, 2) := by decide +kernel
theorem dX7_reckons_268 : decode cX7_reckons 268 = .ok (.dconst 1, 1) := by decide +kernel
theorem dX7_reckons_269 : decode cX7_reckons 269 = .ok (.dcmp .g, 1) := by decide +kernel
theorem dX7_reckons_270 : decode cX7_reckons 270 = .ok (.ifCond .ge 7, 3) := by decide +kernel
theorem dX7_reckons_273 : decode cX7_reckons 273 = .ok (.iconst 1, 1) := by decide +kernel
theorem dX7_reckons_274 : decode cX7_reckons 274 = .ok (.goto 20, 3) := by decide +kernel
theorem dX7_reckons_277 : decode cX7_reckons 277 = .ok (.dload 4, 2) := by decide +kernel
theorem dX7_reckons_279 : decode cX7_reckons 279 = .ok (.ldc2_w 163, 3) := by decide +kernel
theorem dX7_reckons_282 : decode cX7_reckons 282 = .ok (.dcmp .l, 1) := by decide +kernel
theorem dX7_reckons_283 : decode cX7_reckons 283 = .ok (.ifCond .lt 8, 3) := by decide +kernel
theorem dX7_reckons_286 : decode cX7_reckons 286 = .ok (.ldc 165, 2) := by decide +kernel
theorem dX7_reckons_288 : decode cX7_reckons 288 = .ok (.goto 6, 3) := by decide +kernel
theorem dX7_reckons_291 : decode cX7_reckons 291 = .ok (.dload 4, 2) := by decide +kernel
theorem dX7_reckons_293 : decode cX7_reckons 293 = .ok (.d2i, 1) := by decide +kernel
theorem dX7_reckons_294 : decode cX7_reckons 294 = .ok (.iastore, 1) := by decide +kernel
theorem dX7_reckons_295 : decode cX7_reckons 295 = .ok (.return_, 1) := by decide +kernel
set_option maxRecDepth 20000 in
theorem ggX7_corrects_X7_reckons : GoodIn wsX7_corrects wsX7_reckons := goodIn_r _ [5, 6, 7, 8, 9, 10, 11, 12, 13, 14, 15, 16, 17, 18, 19, 4, 20, 21, 22, 23, 24, 25, 26, 27, 28, 29, 30, 31, 32, 33, 34, 35, 36, 37, 38, 39, 40, 41, 42, 43, 44, 45, 46, 47, 48, 49, 50, 51, 52, 53, 54, 55, 56, 57, 58, 59, 60, 61, 62, 63, 64, 65, 66, 67, 68, 69, 70, 71, 72, 73, 74, 75, 76, 77, 78, 79, 80, 81, 82, 83, 84, 85, 86, 87, 88, 89] (by decide +kernel) (by decide +kernel)
set_option maxRecDepth 20000 in
theorem gX7_corrects_X7_reckons : GoodIn wsX7_corrects (wsV RX7 166 RX7 yX7_reckons wsX7_reckons) := goodIn_app (goodIn_of _ (by decide +kernel)) ggX7_corrects_X7_reckons
theorem dX7_corrects_0 : decode cX7_corrects 0 = .ok (.iconst 0, 1) := by decide +kernel
theorem dX7_corrects_1 : decode cX7_corrects 1 = .ok (.istore_n 2, 1) := by decide +kernel
theorem dX7_corrects_2 : decode cX7_corrects 2 = .ok (.iload_n 2, 1) := by decide +kernel
theorem dX7_corrects_3 : decode cX7_corrects 3 = .ok (.iload_n 1, 1) := by decide +kernel
theorem dX7_corrects_4 : decode cX7_corrects 4 = .ok (.if_icmp .gt 15, 3) := by decide +kernel
theorem dX7_corrects_7 : decode cX7_corrects 7 = .ok (.aload_n 0, 1) := by decide +kernel
theorem dX7_corrects_8 : decode cX7_corrects 8 = .ok (.iload_n 2, 1) := by decide +kernel
theorem dX7_corrects_9 : decode cX7_corrects 9 = .ok (.iconst 1, 1) := by decide +kernel
theorem dX7_corrects_10 : decode cX7_corrects 10 = .ok (.invokevirtual 166, 3) := by decide +kernel
theorem dX7_corrects_13 : decode cX7_corrects 13 = .ok (.iinc 2 1, 3) := by decide +kernel
theorem dX7_corrects_16 : decode cX7_corrects 16 = .ok (.goto (-14), 3) := by decide +kernel
theorem dX7_corrects_19 : decode cX7_corrects 19 = .ok (.return_, 1) := by decide +kernel
theorem dX7_ties_0 : decode cX7_ties 0 = .ok (.lload_n 2, 1) := by decide +kernel
theorem dX7_ties_1 : decode cX7_ties 1 = .ok (.ldc2_w 170, 3) := by decide +kernel
theorem dX7_ties_4 : decode cX7_ties 4 = .ok (.lmul, 1) := by decide +kernel
theorem dX7_ties_5 : decode cX7_ties 5 = .ok (.lload 4, 2) := by decide +kernel
theorem dX7_ties_7 : decode cX7_ties 7 = .ok (.ldc2_w 170, 3) := by decide +kernel
theorem dX7_ties_10 : decode cX7_ties 10 = .ok (.aload_n 0, 1) := by decide +kernel
theorem dX7_ties_11 : decode cX7_ties 11 = .ok (.getfield 69, 3) := by decide +kernel
theorem dX7_ties_14 : decode cX7_ties 14 = .ok (.iload_n 1, 1) := by decide +kernel
theorem dX7_ties_15 : decode cX7_ties 15 = .ok (.iaload, 1) := by decide +kernel
theorem dX7_ties_16 : decode cX7_ties 16 = .ok (.i2l, 1) := by decide +kernel
theorem dX7_ties_17 : decode cX7_ties 17 = .ok (.ladd, 1) := by decide +kernel
theorem dX7_ties_18 : decode cX7_ties 18 = .ok (.lmul, 1) := by decide +kernel
theorem dX7_ties_19 : decode cX7_ties 19 = .ok (.lcmp, 1) := by decide +kernel
theorem dX7_ties_20 : decode cX7_ties 20 = .ok (.ifCond .ge 35, 3) := by decide +kernel
theorem dX7_ties_23 : decode cX7_ties 23 = .ok (.aload_n 0, 1) := by decide +kernel
theorem dX7_ties_24 : decode cX7_ties 24 = .ok (.getfield 72, 3) := by decide +kernel
theorem dX7_ties_27 : decode cX7_ties 27 = .ok (.iload_n 1, 1) := by decide +kernel
theorem dX7_ties_28 : decode cX7_ties 28 = .ok (.baload, 1) := by decide +kernel
theorem dX7_ties_29 : decode cX7_ties 29 = .ok (.ifCond .ne 30, 3) := by decide +kernel
theorem dX7_ties_32 : decode cX7_ties 32 = .ok (.lload_n 2, 1) := by decide +kernel
theorem dX7_ties_33 : decode cX7_ties 33 = .ok (.ldc2_w 170, 3) := by decide +kernel
theorem dX7_ties_36 : decode cX7_ties 36 = .ok (.lmul, 1) := by decide +kernel
theorem dX7_ties_37 : decode cX7_ties 37 = .ok (.lload 4, 2) := by decide +kernel
theorem dX7_ties_39 : decode cX7_ties 39 = .ok (.ldc2_w 170, 3) := by decide +kernel
theorem dX7_ties_42 : decode cX7_ties 42 = .ok (.aload_n 0, 1) := by decide +kernel
theorem dX7_ties_43 : decode cX7_ties 43 = .ok (.getfield 69, 3) := by decide +kernel
theorem dX7_ties_46 : decode cX7_ties 46 = .ok (.iload_n 1, 1) := by decide +kernel
theorem dX7_ties_47 : decode cX7_ties 47 = .ok (.iaload, 1) := by decide +kernel
theorem dX7_ties_48 : decode cX7_ties 48 = .ok (.i2l, 1) := by decide +kernel
theorem dX7_ties_49 : decode cX7_ties 49 = .ok (.lsub, 1) := by decide +kernel
theorem dX7_ties_50 : decode cX7_ties 50 = .ok (.lmul, 1) := by decide +kernel
theorem dX7_ties_51 : decode cX7_ties 51 = .ok (.lcmp, 1) := by decide +kernel
theorem dX7_ties_52 : decode cX7_ties 52 = .ok (.ifCond .gt 7, 3) := by decide +kernel
theorem dX7_ties_55 : decode cX7_ties 55 = .ok (.iconst 1, 1) := by decide +kernel
theorem dX7_ties_56 : decode cX7_ties 56 = .ok (.goto 4, 3) := by decide +kernel
theorem dX7_ties_59 : decode cX7_ties 59 = .ok (.iconst 0, 1) := by decide +kernel
theorem dX7_ties_60 : decode cX7_ties 60 = .ok (.ireturn, 1) := by decide +kernel
theorem dX7_tied_0 : decode cX7_tied 0 = .ok (.lload_n 0, 1) := by decide +kernel
theorem dX7_tied_1 : decode cX7_tied 1 = .ok (.lload_n 2, 1) := by decide +kernel
theorem dX7_tied_2 : decode cX7_tied 2 = .ok (.lmul, 1) := by decide +kernel
theorem dX7_tied_3 : decode cX7_tied 3 = .ok (.lload 4, 2) := by decide +kernel
theorem dX7_tied_5 : decode cX7_tied 5 = .ok (.ldiv, 1) := by decide +kernel
theorem dX7_tied_6 : decode cX7_tied 6 = .ok (.lstore 6, 2) := by decide +kernel
theorem dX7_tied_8 : decode cX7_tied 8 = .ok (.lload 6, 2) := by decide +kernel
theorem dX7_tied_10 : decode cX7_tied 10 = .ok (.ldc2_w 172, 3) := by decide +kernel
theorem dX7_tied_13 : decode cX7_tied 13 = .ok (.lcmp, 1) := by decide +kernel
theorem dX7_tied_14 : decode cX7_tied 14 = .ok (.ifCond .le 9, 3) := by decide +kernel
theorem dX7_tied_17 : decode cX7_tied 17 = .ok (.ldc2_w 172, 3) := by decide +kernel
theorem dX7_tied_20 : decode cX7_tied 20 = .ok (.goto 5, 3) := by decide +kernel
theorem dX7_tied_23 : decode cX7_tied 23 = .ok (.lload 6, 2) := by decide +kernel
theorem dX7_tied_25 : decode cX7_tied 25 = .ok (.lreturn, 1) := by decide +kernel
set_option maxRecDepth 20000 in
theorem ggX7_publish_X7_reckons : GoodIn wsX7_publish wsX7_reckons := goodIn_r _ [17, 18, 19, 20, 21, 22, 23, 24, 25, 8, 26, 27, 28, 29, 30, 16, 31, 32, 33, 34, 35, 36, 37, 38, 39, 40, 41, 42, 43, 44, 45, 46, 47, 48, 49, 50, 51, 52, 53, 54, 55, 56, 57, 58, 59, 60, 61, 62, 63, 64, 65, 3, 66, 78, 79, 80, 81, 82, 83, 84, 85, 86, 87, 88, 89, 90, 91, 92, 93, 94, 95, 96, 97, 98, 99, 100, 101, 102, 103, 104, 105, 106, 107, 108, 109, 110] (by decide +kernel) (by decide +kernel)
set_option maxRecDepth 20000 in
theorem gX7_publish_X7_reckons : GoodIn wsX7_publish (wsV RX7 166 RX7 yX7_reckons wsX7_reckons) := goodIn_app (goodIn_of _ (by decide +kernel)) ggX7_publish_X7_reckons
set_option maxRecDepth 20000 in
theorem ggX7_publish_X7_ties : GoodIn wsX7_publish wsX7_ties := goodIn_r _ [70, 71, 72, 73, 78, 79, 80, 81, 82, 83, 84, 85, 86, 87, 88, 89, 90, 91, 92, 93, 94, 95, 96, 97, 98, 99, 100, 101, 102, 103, 104, 105, 106, 107, 108, 109, 110] (by decide +kernel) (by decide +kernel)
set_option maxRecDepth 20000 in
theorem gX7_publish_X7_ties : GoodIn wsX7_publish (wsV RX7 177 RX7 yX7_ties wsX7_ties) := goodIn_app (goodIn_of _ (by decide +kernel)) ggX7_publish_X7_ties
set_option maxRecDepth 20000 in
theorem ggX7_publish_X7_tied : GoodIn wsX7_publish wsX7_tied := goodIn_r _ [76, 77] (by decide +kernel) (by decide +kernel)
set_option maxRecDepth 20000 in
theorem gX7_publish_X7_tied : GoodIn wsX7_publish (va_wsS RX7 181 yX7_tied wsX7_tied) := goodIn_app (goodIn_of _ (by decide +kernel)) ggX7_publish_X7_tied
theorem dX7_publish_0 : decode cX7_publish 0 = .ok (.aload_n 0, 1) := by decide +kernel
theorem dX7_publish_1 : decode cX7_publish 1 = .ok (.aload_n 0, 1) := by decide +kernel
theorem dX7_publish_2 : decode cX7_publish 2 = .ok (.getfield 105, 3) := by decide +kernel
theorem dX7_publish_5 : decode cX7_publish 5 = .ok (.bipush 24, 2) := by decide +kernel
theorem dX7_publish_7 : decode cX7_publish 7 = .ok (.if_icmp .ne 7, 3) := by decide +kernel
theorem dX7_publish_10 : decode cX7_publish 10 = .ok (.iconst 1, 1) := by decide +kernel
theorem dX7_publish_11 : decode cX7_publish 11 = .ok (.goto 4, 3) := by decide +kernel
theorem dX7_publish_14 : decode cX7_publish 14 = .ok (.iconst 0, 1) := by decide +kernel
theorem dX7_publish_15 : decode cX7_publish 15 = .ok (.putfield 94, 3) := by decide +kernel
theorem dX7_publish_18 : decode cX7_publish 18 = .ok (.aload_n 0, 1) := by decide +kernel
theorem dX7_publish_19 : decode cX7_publish 19 = .ok (.getfield 94, 3) := by decide +kernel
theorem dX7_publish_22 : decode cX7_publish 22 = .ok (.ifCond .le 5, 3) := by decide +kernel
theorem dX7_publish_25 : decode cX7_publish 25 = .ok (.iconst 0, 1) := by decide +kernel
theorem dX7_publish_26 : decode cX7_publish 26 = .ok (.ireturn, 1) := by decide +kernel
theorem dX7_publish_27 : decode cX7_publish 27 = .ok (.iconst 0, 1) := by decide +kernel
theorem dX7_publish_28 : decode cX7_publish 28 = .ok (.istore_n 1, 1) := by decide +kernel
theorem dX7_publish_29 : decode cX7_publish 29 = .ok (.iload_n 1, 1) := by decide +kernel
theorem dX7_publish_30 : decode cX7_publish 30 = .ok (.bipush 12, 2) := by decide +kernel
theorem dX7_publish_32 : decode cX7_publish 32 = .ok (.if_icmp .ge 29, 3) := by decide +kernel
theorem dX7_publish_35 : decode cX7_publish 35 = .ok (.aload_n 0, 1) := by decide +kernel
theorem dX7_publish_36 : decode cX7_publish 36 = .ok (.getfield 44, 3) := by decide +kernel
theorem dX7_publish_39 : decode cX7_publish 39 = .ok (.bipush 12, 2) := by decide +kernel
theorem dX7_publish_41 : decode cX7_publish 41 = .ok (.aload_n 0, 1) := by decide +kernel
theorem dX7_publish_42 : decode cX7_publish 42 = .ok (.getfield 105, 3) := by decide +kernel
theorem dX7_publish_45 : decode cX7_publish 45 = .ok (.imul, 1) := by decide +kernel
theorem dX7_publish_46 : decode cX7_publish 46 = .ok (.iload_n 1, 1) := by decide +kernel
theorem dX7_publish_47 : decode cX7_publish 47 = .ok (.iadd, 1) := by decide +kernel
theorem dX7_publish_48 : decode cX7_publish 48 = .ok (.aload_n 0, 1) := by decide +kernel
theorem dX7_publish_49 : decode cX7_publish 49 = .ok (.getfield 41, 3) := by decide +kernel
theorem dX7_publish_52 : decode cX7_publish 52 = .ok (.iload_n 1, 1) := by decide +kernel
theorem dX7_publish_53 : decode cX7_publish 53 = .ok (.iaload, 1) := by decide +kernel
theorem dX7_publish_54 : decode cX7_publish 54 = .ok (.iastore, 1) := by decide +kernel
theorem dX7_publish_55 : decode cX7_publish 55 = .ok (.iinc 1 1, 3) := by decide +kernel
theorem dX7_publish_58 : decode cX7_publish 58 = .ok (.goto (-29), 3) := by decide +kernel
theorem dX7_publish_61 : decode cX7_publish 61 = .ok (.aload_n 0, 1) := by decide +kernel
theorem dX7_publish_62 : decode cX7_publish 62 = .ok (.aload_n 0, 1) := by decide +kernel
theorem dX7_publish_63 : decode cX7_publish 63 = .ok (.getfield 105, 3) := by decide +kernel
theorem dX7_publish_66 : decode cX7_publish 66 = .ok (.iconst 0, 1) := by decide +kernel
theorem dX7_publish_67 : decode cX7_publish 67 = .ok (.invokevirtual 166, 3) := by decide +kernel
theorem dX7_publish_70 : decode cX7_publish 70 = .ok (.iconst 0, 1) := by decide +kernel
theorem dX7_publish_71 : decode cX7_publish 71 = .ok (.istore_n 1, 1) := by decide +kernel
theorem dX7_publish_72 : decode cX7_publish 72 = .ok (.iload_n 1, 1) := by decide +kernel
theorem dX7_publish_73 : decode cX7_publish 73 = .ok (.aload_n 0, 1) := by decide +kernel
theorem dX7_publish_74 : decode cX7_publish 74 = .ok (.getfield 174, 3) := by decide +kernel
theorem dX7_publish_77 : decode cX7_publish 77 = .ok (.if_icmp .ge 115, 3) := by decide +kernel
theorem dX7_publish_80 : decode cX7_publish 80 = .ok (.aload_n 0, 1) := by decide +kernel
theorem dX7_publish_81 : decode cX7_publish 81 = .ok (.getfield 105, 3) := by decide +kernel
theorem dX7_publish_84 : decode cX7_publish 84 = .ok (.aload_n 0, 1) := by decide +kernel
theorem dX7_publish_85 : decode cX7_publish 85 = .ok (.getfield 66, 3) := by decide +kernel
theorem dX7_publish_88 : decode cX7_publish 88 = .ok (.iload_n 1, 1) := by decide +kernel
theorem dX7_publish_89 : decode cX7_publish 89 = .ok (.iaload, 1) := by decide +kernel
theorem dX7_publish_90 : decode cX7_publish 90 = .ok (.isub, 1) := by decide +kernel
theorem dX7_publish_91 : decode cX7_publish 91 = .ok (.istore_n 2, 1) := by decide +kernel
theorem dX7_publish_92 : decode cX7_publish 92 = .ok (.iload_n 2, 1) := by decide +kernel
theorem dX7_publish_93 : decode cX7_publish 93 = .ok (.aload_n 0, 1) := by decide +kernel
theorem dX7_publish_94 : decode cX7_publish 94 = .ok (.getfield 88, 3) := by decide +kernel
theorem dX7_publish_97 : decode cX7_publish 97 = .ok (.iload_n 1, 1) := by decide +kernel
theorem dX7_publish_98 : decode cX7_publish 98 = .ok (.iaload, 1) := by decide +kernel
theorem dX7_publish_99 : decode cX7_publish 99 = .ok (.if_icmp .le 72, 3) := by decide +kernel
theorem dX7_publish_102 : decode cX7_publish 102 = .ok (.aload_n 0, 1) := by decide +kernel
theorem dX7_publish_103 : decode cX7_publish 103 = .ok (.iload_n 1, 1) := by decide +kernel
theorem dX7_publish_104 : decode cX7_publish 104 = .ok (.aload_n 0, 1) := by decide +kernel
theorem dX7_publish_105 : decode cX7_publish 105 = .ok (.getfield 63, 3) := by decide +kernel
theorem dX7_publish_108 : decode cX7_publish 108 = .ok (.iload_n 2, 1) := by decide +kernel
theorem dX7_publish_109 : decode cX7_publish 109 = .ok (.iaload, 1) := by decide +kernel
theorem dX7_publish_110 : decode cX7_publish 110 = .ok (.i2l, 1) := by decide +kernel
theorem dX7_publish_111 : decode cX7_publish 111 = .ok (.aload_n 0, 1) := by decide +kernel
theorem dX7_publish_112 : decode cX7_publish 112 = .ok (.getfield 85, 3) := by decide +kernel
theorem dX7_publish_115 : decode cX7_publish 115 = .ok (.iload_n 1, 1) := by decide +kernel
theorem dX7_publish_116 : decode cX7_publish 116 = .ok (.laload, 1) := by decide +kernel
theorem dX7_publish_117 : decode cX7_publish 117 = .ok (.invokevirtual 177, 3) := by decide +kernel
theorem dX7_publish_120 : decode cX7_publish 120 = .ok (.ifCond .eq 51, 3) := by decide +kernel
theorem dX7_publish_123 : decode cX7_publish 123 = .ok (.aload_n 0, 1) := by decide +kernel
theorem dX7_publish_124 : decode cX7_publish 124 = .ok (.getfield 82, 3) := by decide +kernel
theorem dX7_publish_127 : decode cX7_publish 127 = .ok (.iload_n 1, 1) := by decide +kernel
theorem dX7_publish_128 : decode cX7_publish 128 = .ok (.aload_n 0, 1) := by decide +kernel
theorem dX7_publish_129 : decode cX7_publish 129 = .ok (.getfield 82, 3) := by decide +kernel
theorem dX7_publish_132 : decode cX7_publish 132 = .ok (.iload_n 1, 1) := by decide +kernel
theorem dX7_publish_133 : decode cX7_publish 133 = .ok (.laload, 1) := by decide +kernel
theorem dX7_publish_134 : decode cX7_publish 134 = .ok (.aload_n 0, 1) := by decide +kernel
theorem dX7_publish_135 : decode cX7_publish 135 = .ok (.getfield 63, 3) := by decide +kernel
theorem dX7_publish_138 : decode cX7_publish 138 = .ok (.iload_n 2, 1) := by decide +kernel
theorem dX7_publish_139 : decode cX7_publish 139 = .ok (.iaload, 1) := by decide +kernel
theorem dX7_publish_140 : decode cX7_publish 140 = .ok (.i2l, 1) := by decide +kernel
theorem dX7_publish_141 : decode cX7_publish 141 = .ok (.aload_n 0, 1) := by decide +kernel
theorem dX7_publish_142 : decode cX7_publish 142 = .ok (.getfield 85, 3) := by decide +kernel
theorem dX7_publish_145 : decode cX7_publish 145 = .ok (.iload_n 1, 1) := by decide +kernel
theorem dX7_publish_146 : decode cX7_publish 146 = .ok (.laload, 1) := by decide +kernel
theorem dX7_publish_147 : decode cX7_publish 147 = .ok (.invokestatic 181, 3) := by decide +kernel
theorem dX7_publish_150 : decode cX7_publish 150 = .ok (.lastore, 1) := by decide +kernel
theorem dX7_publish_151 : decode cX7_publish 151 = .ok (.aload_n 0, 1) := by decide +kernel
theorem dX7_publish_152 : decode cX7_publish 152 = .ok (.getfield 85, 3) := by decide +kernel
theorem dX7_publish_155 : decode cX7_publish 155 = .ok (.iload_n 1, 1) := by decide +kernel
theorem dX7_publish_156 : decode cX7_publish 156 = .ok (.aload_n 0, 1) := by decide +kernel
theorem dX7_publish_157 : decode cX7_publish 157 = .ok (.getfield 63, 3) := by decide +kernel
theorem dX7_publish_160 : decode cX7_publish 160 = .ok (.iload_n 2, 1) := by decide +kernel
theorem dX7_publish_161 : decode cX7_publish 161 = .ok (.iaload, 1) := by decide +kernel
theorem dX7_publish_162 : decode cX7_publish 162 = .ok (.i2l, 1) := by decide +kernel
theorem dX7_publish_163 : decode cX7_publish 163 = .ok (.lastore, 1) := by decide +kernel
theorem dX7_publish_164 : decode cX7_publish 164 = .ok (.aload_n 0, 1) := by decide +kernel
theorem dX7_publish_165 : decode cX7_publish 165 = .ok (.getfield 88, 3) := by decide +kernel
theorem dX7_publish_168 : decode cX7_publish 168 = .ok (.iload_n 1, 1) := by decide +kernel
theorem dX7_publish_169 : decode cX7_publish 169 = .ok (.iload_n 2, 1) := by decide +kernel
theorem dX7_publish_170 : decode cX7_publish 170 = .ok (.iastore, 1) := by decide +kernel
theorem dX7_publish_171 : decode cX7_publish 171 = .ok (.aload_n 0, 1) := by decide +kernel
theorem dX7_publish_172 : decode cX7_publish 172 = .ok (.getfield 91, 3) := by decide +kernel
theorem dX7_publish_175 : decode cX7_publish 175 = .ok (.iload_n 1, 1) := by decide +kernel
theorem dX7_publish_176 : decode cX7_publish 176 = .ok (.dup2, 1) := by decide +kernel
theorem dX7_publish_177 : decode cX7_publish 177 = .ok (.laload, 1) := by decide +kernel
theorem dX7_publish_178 : decode cX7_publish 178 = .ok (.aload_n 0, 1) := by decide +kernel
theorem dX7_publish_179 : decode cX7_publish 179 = .ok (.getfield 82, 3) := by decide +kernel
theorem dX7_publish_182 : decode cX7_publish 182 = .ok (.iload_n 1, 1) := by decide +kernel
theorem dX7_publish_183 : decode cX7_publish 183 = .ok (.laload, 1) := by decide +kernel
theorem dX7_publish_184 : decode cX7_publish 184 = .ok (.ladd, 1) := by decide +kernel
theorem dX7_publish_185 : decode cX7_publish 185 = .ok (.lastore, 1) := by decide +kernel
theorem dX7_publish_186 : decode cX7_publish 186 = .ok (.iinc 1 1, 3) := by decide +kernel
theorem dX7_publish_189 : decode cX7_publish 189 = .ok (.goto (-117), 3) := by decide +kernel
theorem dX7_publish_192 : decode cX7_publish 192 = .ok (.aload_n 0, 1) := by decide +kernel
theorem dX7_publish_193 : decode cX7_publish 193 = .ok (.dup, 1) := by decide +kernel
theorem dX7_publish_194 : decode cX7_publish 194 = .ok (.getfield 105, 3) := by decide +kernel
theorem dX7_publish_197 : decode cX7_publish 197 = .ok (.iconst 1, 1) := by decide +kernel
theorem dX7_publish_198 : decode cX7_publish 198 = .ok (.iadd, 1) := by decide +kernel
theorem dX7_publish_199 : decode cX7_publish 199 = .ok (.putfield 105, 3) := by decide +kernel
theorem dX7_publish_202 : decode cX7_publish 202 = .ok (.aload_n 0, 1) := by decide +kernel
theorem dX7_publish_203 : decode cX7_publish 203 = .ok (.iconst 0, 1) := by decide +kernel
theorem dX7_publish_204 : decode cX7_publish 204 = .ok (.putfield 123, 3) := by decide +kernel
theorem dX7_publish_207 : decode cX7_publish 207 = .ok (.aload_n 0, 1) := by decide +kernel
theorem dX7_publish_208 : decode cX7_publish 208 = .ok (.getfield 63, 3) := by decide +kernel
theorem dX7_publish_211 : decode cX7_publish 211 = .ok (.aload_n 0, 1) := by decide +kernel
theorem dX7_publish_212 : decode cX7_publish 212 = .ok (.getfield 105, 3) := by decide +kernel
theorem dX7_publish_215 : decode cX7_publish 215 = .ok (.iconst 1, 1) := by decide +kernel
theorem dX7_publish_216 : decode cX7_publish 216 = .ok (.isub, 1) := by decide +kernel
theorem dX7_publish_217 : decode cX7_publish 217 = .ok (.iaload, 1) := by decide +kernel
theorem dX7_publish_218 : decode cX7_publish 218 = .ok (.ireturn, 1) := by decide +kernel
set_option maxRecDepth 20000 in
theorem ggX7_fix_X7_isPublished : GoodIn wsX7_fix wsX7_isPublished := goodIn_r _ [10, 11, 12, 13, 9, 14, 26, 27, 28, 29, 30, 31, 32, 33, 34, 35, 36, 37, 38, 39, 40, 41, 42, 43, 44, 45, 46, 47, 48, 49, 50, 51, 52, 53, 54, 55, 56, 57, 58] (by decide +kernel) (by decide +kernel)
set_option maxRecDepth 20000 in
theorem gX7_fix_X7_isPublished : GoodIn wsX7_fix (wsV RX7 185 RX7 yX7_isPublished wsX7_isPublished) := goodIn_app (goodIn_of _ (by decide +kernel)) ggX7_fix_X7_isPublished
set_option maxRecDepth 20000 in
theorem ggX7_fix_X7_isItem : GoodIn wsX7_fix wsX7_isItem := goodIn_r _ [18, 19, 12, 13, 9, 14, 26, 27, 28, 29, 30, 31, 32, 33, 34, 35, 36, 37, 38, 39, 40, 41, 42, 43, 44, 45, 46, 47, 48, 49, 50, 51, 52, 53, 54, 55, 56, 57, 58] (by decide +kernel) (by decide +kernel)
set_option maxRecDepth 20000 in
theorem gX7_fix_X7_isItem : GoodIn wsX7_fix (wsV RX7 112 RX7 yX7_isItem wsX7_isItem) := goodIn_app (goodIn_of _ (by decide +kernel)) ggX7_fix_X7_isItem
set_option maxRecDepth 20000 in
theorem ggX7_fix_X7_isOutlet : GoodIn wsX7_fix wsX7_isOutlet := goodIn_r _ [22, 12, 13, 9, 14] (by decide +kernel) (by decide +kernel)
set_option maxRecDepth 20000 in
theorem gX7_fix_X7_isOutlet : GoodIn wsX7_fix (va_wsS RX7 115 yX7_isOutlet wsX7_isOutlet) := goodIn_app (goodIn_of _ (by decide +kernel)) ggX7_fix_X7_isOutlet
set_option maxRecDepth 20000 in
theorem ggX7_fix_X7_in : GoodIn wsX7_fix wsX7_in := goodIn_r _ [14] (by decide +kernel) (by decide +kernel)
set_option maxRecDepth 20000 in
theorem gX7_fix_X7_in : GoodIn wsX7_fix (va_wsS RX7 101 yX7_in wsX7_in) := goodIn_app (goodIn_of _ (by decide +kernel)) ggX7_fix_X7_in
set_option maxRecDepth 20000 in
theorem ggX7_fix_X7_cell : GoodIn wsX7_fix wsX7_cell := goodIn_r _ [25] (by decide +kernel) (by decide +kernel)
set_option maxRecDepth 20000 in
theorem gX7_fix_X7_cell : GoodIn wsX7_fix (va_wsS RX7 119 yX7_cell wsX7_cell) := goodIn_app (goodIn_of _ (by decide +kernel)) ggX7_fix_X7_cell
theorem dX7_fix_0 : decode cX7_fix 0 = .ok (.aload_n 0, 1) := by decide +kernel
theorem dX7_fix_1 : decode cX7_fix 1 = .ok (.aload_n 0, 1) := by decide +kernel
theorem dX7_fix_2 : decode cX7_fix 2 = .ok (.iload_n 1, 1) := by decide +kernel
theorem dX7_fix_3 : decode cX7_fix 3 = .ok (.invokevirtual 185, 3) := by decide +kernel
theorem dX7_fix_6 : decode cX7_fix 6 = .ok (.ifCond .eq 18, 3) := by decide +kernel
theorem dX7_fix_9 : decode cX7_fix 9 = .ok (.aload_n 0, 1) := by decide +kernel
theorem dX7_fix_10 : decode cX7_fix 10 = .ok (.iload_n 2, 1) := by decide +kernel
theorem dX7_fix_11 : decode cX7_fix 11 = .ok (.invokevirtual 112, 3) := by decide +kernel
theorem dX7_fix_14 : decode cX7_fix 14 = .ok (.ifCond .eq 10, 3) := by decide +kernel
theorem dX7_fix_17 : decode cX7_fix 17 = .ok (.iload_n 3, 1) := by decide +kernel
theorem dX7_fix_18 : decode cX7_fix 18 = .ok (.invokestatic 115, 3) := by decide +kernel
theorem dX7_fix_21 : decode cX7_fix 21 = .ok (.ifCond .ne 7, 3) := by decide +kernel
theorem dX7_fix_24 : decode cX7_fix 24 = .ok (.iconst 1, 1) := by decide +kernel
theorem dX7_fix_25 : decode cX7_fix 25 = .ok (.goto 37, 3) := by decide +kernel
theorem dX7_fix_28 : decode cX7_fix 28 = .ok (.iload 4, 2) := by decide +kernel
theorem dX7_fix_30 : decode cX7_fix 30 = .ok (.iconst 1, 1) := by decide +kernel
theorem dX7_fix_31 : decode cX7_fix 31 = .ok (.ldc 118, 2) := by decide +kernel
theorem dX7_fix_33 : decode cX7_fix 33 = .ok (.invokestatic 101, 3) := by decide +kernel
theorem dX7_fix_36 : decode cX7_fix 36 = .ok (.ifCond .ne 7, 3) := by decide +kernel
theorem dX7_fix_39 : decode cX7_fix 39 = .ok (.iconst 2, 1) := by decide +kernel
theorem dX7_fix_40 : decode cX7_fix 40 = .ok (.goto 22, 3) := by decide +kernel
theorem dX7_fix_43 : decode cX7_fix 43 = .ok (.aload_n 0, 1) := by decide +kernel
theorem dX7_fix_44 : decode cX7_fix 44 = .ok (.getfield 19, 3) := by decide +kernel
theorem dX7_fix_47 : decode cX7_fix 47 = .ok (.iload_n 1, 1) := by decide +kernel
theorem dX7_fix_48 : decode cX7_fix 48 = .ok (.iload_n 2, 1) := by decide +kernel
theorem dX7_fix_49 : decode cX7_fix 49 = .ok (.iload_n 3, 1) := by decide +kernel
theorem dX7_fix_50 : decode cX7_fix 50 = .ok (.invokestatic 119, 3) := by decide +kernel
theorem dX7_fix_53 : decode cX7_fix 53 = .ok (.iaload, 1) := by decide +kernel
theorem dX7_fix_54 : decode cX7_fix 54 = .ok (.ifCond .ne 7, 3) := by decide +kernel
theorem dX7_fix_57 : decode cX7_fix 57 = .ok (.iconst 3, 1) := by decide +kernel
theorem dX7_fix_58 : decode cX7_fix 58 = .ok (.goto 4, 3) := by decide +kernel
theorem dX7_fix_61 : decode cX7_fix 61 = .ok (.iconst 0, 1) := by decide +kernel
theorem dX7_fix_62 : decode cX7_fix 62 = .ok (.putfield 94, 3) := by decide +kernel
theorem dX7_fix_65 : decode cX7_fix 65 = .ok (.aload_n 0, 1) := by decide +kernel
theorem dX7_fix_66 : decode cX7_fix 66 = .ok (.getfield 94, 3) := by decide +kernel
theorem dX7_fix_69 : decode cX7_fix 69 = .ok (.ifCond .le 5, 3) := by decide +kernel
theorem dX7_fix_72 : decode cX7_fix 72 = .ok (.iconst 0, 1) := by decide +kernel
theorem dX7_fix_73 : decode cX7_fix 73 = .ok (.ireturn, 1) := by decide +kernel
theorem dX7_fix_74 : decode cX7_fix 74 = .ok (.iload_n 1, 1) := by decide +kernel
theorem dX7_fix_75 : decode cX7_fix 75 = .ok (.iload_n 2, 1) := by decide +kernel
theorem dX7_fix_76 : decode cX7_fix 76 = .ok (.iload_n 3, 1) := by decide +kernel
theorem dX7_fix_77 : decode cX7_fix 77 = .ok (.invokestatic 119, 3) := by decide +kernel
theorem dX7_fix_80 : decode cX7_fix 80 = .ok (.istore 5, 2) := by decide +kernel
theorem dX7_fix_82 : decode cX7_fix 82 = .ok (.aload_n 0, 1) := by decide +kernel
theorem dX7_fix_83 : decode cX7_fix 83 = .ok (.getfield 25, 3) := by decide +kernel
theorem dX7_fix_86 : decode cX7_fix 86 = .ok (.iload 5, 2) := by decide +kernel
theorem dX7_fix_88 : decode cX7_fix 88 = .ok (.iaload, 1) := by decide +kernel
theorem dX7_fix_89 : decode cX7_fix 89 = .ok (.ifCond .le 13, 3) := by decide +kernel
theorem dX7_fix_92 : decode cX7_fix 92 = .ok (.aload_n 0, 1) := by decide +kernel
theorem dX7_fix_93 : decode cX7_fix 93 = .ok (.getfield 25, 3) := by decide +kernel
theorem dX7_fix_96 : decode cX7_fix 96 = .ok (.iload 5, 2) := by decide +kernel
theorem dX7_fix_98 : decode cX7_fix 98 = .ok (.iaload, 1) := by decide +kernel
theorem dX7_fix_99 : decode cX7_fix 99 = .ok (.goto 10, 3) := by decide +kernel
theorem dX7_fix_102 : decode cX7_fix 102 = .ok (.aload_n 0, 1) := by decide +kernel
theorem dX7_fix_103 : decode cX7_fix 103 = .ok (.getfield 19, 3) := by decide +kernel
theorem dX7_fix_106 : decode cX7_fix 106 = .ok (.iload 5, 2) := by decide +kernel
theorem dX7_fix_108 : decode cX7_fix 108 = .ok (.iaload, 1) := by decide +kernel
theorem dX7_fix_109 : decode cX7_fix 109 = .ok (.istore 6, 2) := by decide +kernel
theorem dX7_fix_111 : decode cX7_fix 111 = .ok (.aload_n 0, 1) := by decide +kernel
theorem dX7_fix_112 : decode cX7_fix 112 = .ok (.dup, 1) := by decide +kernel
theorem dX7_fix_113 : decode cX7_fix 113 = .ok (.getfield 188, 3) := by decide +kernel
theorem dX7_fix_116 : decode cX7_fix 116 = .ok (.aload_n 0, 1) := by decide +kernel
theorem dX7_fix_117 : decode cX7_fix 117 = .ok (.getfield 25, 3) := by decide +kernel
theorem dX7_fix_120 : decode cX7_fix 120 = .ok (.iload 5, 2) := by decide +kernel
theorem dX7_fix_122 : decode cX7_fix 122 = .ok (.iaload, 1) := by decide +kernel
theorem dX7_fix_123 : decode cX7_fix 123 = .ok (.ifCond .le 7, 3) := by decide +kernel
theorem dX7_fix_126 : decode cX7_fix 126 = .ok (.iconst 0, 1) := by decide +kernel
theorem dX7_fix_127 : decode cX7_fix 127 = .ok (.goto 4, 3) := by decide +kernel
theorem dX7_fix_130 : decode cX7_fix 130 = .ok (.iconst 1, 1) := by decide +kernel
theorem dX7_fix_131 : decode cX7_fix 131 = .ok (.iadd, 1) := by decide +kernel
theorem dX7_fix_132 : decode cX7_fix 132 = .ok (.putfield 188, 3) := by decide +kernel
theorem dX7_fix_135 : decode cX7_fix 135 = .ok (.aload_n 0, 1) := by decide +kernel
theorem dX7_fix_136 : decode cX7_fix 136 = .ok (.getfield 25, 3) := by decide +kernel
theorem dX7_fix_139 : decode cX7_fix 139 = .ok (.iload 5, 2) := by decide +kernel
theorem dX7_fix_141 : decode cX7_fix 141 = .ok (.iload 4, 2) := by decide +kernel
theorem dX7_fix_143 : decode cX7_fix 143 = .ok (.iastore, 1) := by decide +kernel
theorem dX7_fix_144 : decode cX7_fix 144 = .ok (.iload 6, 2) := by decide +kernel
theorem dX7_fix_146 : decode cX7_fix 146 = .ok (.ireturn, 1) := by decide +kernel
set_option maxRecDepth 20000 in
theorem ggX7_contract_X7_in : GoodIn wsX7_contract wsX7_in := goodIn_r _ [17] (by decide +kernel) (by decide +kernel)
set_option maxRecDepth 20000 in
theorem gX7_contract_X7_in : GoodIn wsX7_contract (va_wsS RX7 101 yX7_in wsX7_in) := goodIn_app (goodIn_of _ (by decide +kernel)) ggX7_contract_X7_in
theorem dX7_contract_0 : decode cX7_contract 0 = .ok (.aload_n 0, 1) := by decide +kernel
theorem dX7_contract_1 : decode cX7_contract 1 = .ok (.iload_n 1, 1) := by decide +kernel
theorem dX7_contract_2 : decode cX7_contract 2 = .ok (.iconst 1, 1) := by decide +kernel
theorem dX7_contract_3 : decode cX7_contract 3 = .ok (.ldc 126, 2) := by decide +kernel
theorem dX7_contract_5 : decode cX7_contract 5 = .ok (.invokestatic 101, 3) := by decide +kernel
theorem dX7_contract_8 : decode cX7_contract 8 = .ok (.ifCond .eq 23, 3) := by decide +kernel
theorem dX7_contract_11 : decode cX7_contract 11 = .ok (.iload_n 2, 1) := by decide +kernel
theorem dX7_contract_12 : decode cX7_contract 12 = .ok (.iconst 0, 1) := by decide +kernel
theorem dX7_contract_13 : decode cX7_contract 13 = .ok (.iconst 3, 1) := by decide +kernel
theorem dX7_contract_14 : decode cX7_contract 14 = .ok (.invokestatic 101, 3) := by decide +kernel
theorem dX7_contract_17 : decode cX7_contract 17 = .ok (.ifCond .eq 14, 3) := by decide +kernel
theorem dX7_contract_20 : decode cX7_contract 20 = .ok (.iload_n 3, 1) := by decide +kernel
theorem dX7_contract_21 : decode cX7_contract 21 = .ok (.iconst 0, 1) := by decide +kernel
theorem dX7_contract_22 : decode cX7_contract 22 = .ok (.sipush 500, 3) := by decide +kernel
theorem dX7_contract_25 : decode cX7_contract 25 = .ok (.invokestatic 101, 3) := by decide +kernel
theorem dX7_contract_28 : decode cX7_contract 28 = .ok (.ifCond .ne 7, 3) := by decide +kernel
theorem dX7_contract_31 : decode cX7_contract 31 = .ok (.iconst 1, 1) := by decide +kernel
theorem dX7_contract_32 : decode cX7_contract 32 = .ok (.goto 24, 3) := by decide +kernel
theorem dX7_contract_35 : decode cX7_contract 35 = .ok (.aload_n 0, 1) := by decide +kernel
theorem dX7_contract_36 : decode cX7_contract 36 = .ok (.getfield 105, 3) := by decide +kernel
theorem dX7_contract_39 : decode cX7_contract 39 = .ok (.ifCond .eq 12, 3) := by decide +kernel
theorem dX7_contract_42 : decode cX7_contract 42 = .ok (.aload_n 0, 1) := by decide +kernel
theorem dX7_contract_43 : decode cX7_contract 43 = .ok (.getfield 174, 3) := by decide +kernel
theorem dX7_contract_46 : decode cX7_contract 46 = .ok (.bipush 10, 2) := by decide +kernel
theorem dX7_contract_48 : decode cX7_contract 48 = .ok (.if_icmp .ne 7, 3) := by decide +kernel
theorem dX7_contract_51 : decode cX7_contract 51 = .ok (.iconst 2, 1) := by decide +kernel
theorem dX7_contract_52 : decode cX7_contract 52 = .ok (.goto 4, 3) := by decide +kernel
theorem dX7_contract_55 : decode cX7_contract 55 = .ok (.iconst 0, 1) := by decide +kernel
theorem dX7_contract_56 : decode cX7_contract 56 = .ok (.putfield 94, 3) := by decide +kernel
theorem dX7_contract_59 : decode cX7_contract 59 = .ok (.aload_n 0, 1) := by decide +kernel
theorem dX7_contract_60 : decode cX7_contract 60 = .ok (.getfield 94, 3) := by decide +kernel
theorem dX7_contract_63 : decode cX7_contract 63 = .ok (.ifCond .le 5, 3) := by decide +kernel
theorem dX7_contract_66 : decode cX7_contract 66 = .ok (.iconst 0, 1) := by decide +kernel
theorem dX7_contract_67 : decode cX7_contract 67 = .ok (.ireturn, 1) := by decide +kernel
theorem dX7_contract_68 : decode cX7_contract 68 = .ok (.aload_n 0, 1) := by decide +kernel
theorem dX7_contract_69 : decode cX7_contract 69 = .ok (.getfield 75, 3) := by decide +kernel
theorem dX7_contract_72 : decode cX7_contract 72 = .ok (.aload_n 0, 1) := by decide +kernel
theorem dX7_contract_73 : decode cX7_contract 73 = .ok (.getfield 174, 3) := by decide +kernel
theorem dX7_contract_76 : decode cX7_contract 76 = .ok (.iload_n 1, 1) := by decide +kernel
theorem dX7_contract_77 : decode cX7_contract 77 = .ok (.i2l, 1) := by decide +kernel
theorem dX7_contract_78 : decode cX7_contract 78 = .ok (.lastore, 1) := by decide +kernel
theorem dX7_contract_79 : decode cX7_contract 79 = .ok (.aload_n 0, 1) := by decide +kernel
theorem dX7_contract_80 : decode cX7_contract 80 = .ok (.getfield 79, 3) := by decide +kernel
theorem dX7_contract_83 : decode cX7_contract 83 = .ok (.aload_n 0, 1) := by decide +kernel
theorem dX7_contract_84 : decode cX7_contract 84 = .ok (.getfield 174, 3) := by decide +kernel
theorem dX7_contract_87 : decode cX7_contract 87 = .ok (.aload_n 0, 1) := by decide +kernel
theorem dX7_contract_88 : decode cX7_contract 88 = .ok (.getfield 105, 3) := by decide +kernel
theorem dX7_contract_91 : decode cX7_contract 91 = .ok (.iconst 1, 1) := by decide +kernel
theorem dX7_contract_92 : decode cX7_contract 92 = .ok (.isub, 1) := by decide +kernel
theorem dX7_contract_93 : decode cX7_contract 93 = .ok (.iastore, 1) := by decide +kernel
theorem dX7_contract_94 : decode cX7_contract 94 = .ok (.aload_n 0, 1) := by decide +kernel
theorem dX7_contract_95 : decode cX7_contract 95 = .ok (.getfield 82, 3) := by decide +kernel
theorem dX7_contract_98 : decode cX7_contract 98 = .ok (.aload_n 0, 1) := by decide +kernel
theorem dX7_contract_99 : decode cX7_contract 99 = .ok (.getfield 174, 3) := by decide +kernel
theorem dX7_contract_102 : decode cX7_contract 102 = .ok (.iload_n 1, 1) := by decide +kernel
theorem dX7_contract_103 : decode cX7_contract 103 = .ok (.i2l, 1) := by decide +kernel
theorem dX7_contract_104 : decode cX7_contract 104 = .ok (.lastore, 1) := by decide +kernel
theorem dX7_contract_105 : decode cX7_contract 105 = .ok (.aload_n 0, 1) := by decide +kernel
theorem dX7_contract_106 : decode cX7_contract 106 = .ok (.getfield 66, 3) := by decide +kernel
theorem dX7_contract_109 : decode cX7_contract 109 = .ok (.aload_n 0, 1) := by decide +kernel
theorem dX7_contract_110 : decode cX7_contract 110 = .ok (.getfield 174, 3) := by decide +kernel
theorem dX7_contract_113 : decode cX7_contract 113 = .ok (.iload_n 2, 1) := by decide +kernel
theorem dX7_contract_114 : decode cX7_contract 114 = .ok (.iastore, 1) := by decide +kernel
theorem dX7_contract_115 : decode cX7_contract 115 = .ok (.aload_n 0, 1) := by decide +kernel
theorem dX7_contract_116 : decode cX7_contract 116 = .ok (.getfield 69, 3) := by decide +kernel
theorem dX7_contract_119 : decode cX7_contract 119 = .ok (.aload_n 0, 1) := by decide +kernel
theorem dX7_contract_120 : decode cX7_contract 120 = .ok (.getfield 174, 3) := by decide +kernel
theorem dX7_contract_123 : decode cX7_contract 123 = .ok (.iload_n 3, 1) := by decide +kernel
theorem dX7_contract_124 : decode cX7_contract 124 = .ok (.iastore, 1) := by decide +kernel
theorem dX7_contract_125 : decode cX7_contract 125 = .ok (.aload_n 0, 1) := by decide +kernel
theorem dX7_contract_126 : decode cX7_contract 126 = .ok (.getfield 72, 3) := by decide +kernel
theorem dX7_contract_129 : decode cX7_contract 129 = .ok (.aload_n 0, 1) := by decide +kernel
theorem dX7_contract_130 : decode cX7_contract 130 = .ok (.getfield 174, 3) := by decide +kernel
theorem dX7_contract_133 : decode cX7_contract 133 = .ok (.iload 4, 2) := by decide +kernel
theorem dX7_contract_135 : decode cX7_contract 135 = .ok (.bastore, 1) := by decide +kernel
theorem dX7_contract_136 : decode cX7_contract 136 = .ok (.aload_n 0, 1) := by decide +kernel
theorem dX7_contract_137 : decode cX7_contract 137 = .ok (.getfield 85, 3) := by decide +kernel
theorem dX7_contract_140 : decode cX7_contract 140 = .ok (.aload_n 0, 1) := by decide +kernel
theorem dX7_contract_141 : decode cX7_contract 141 = .ok (.getfield 174, 3) := by decide +kernel
theorem dX7_contract_144 : decode cX7_contract 144 = .ok (.aload_n 0, 1) := by decide +kernel
theorem dX7_contract_145 : decode cX7_contract 145 = .ok (.getfield 63, 3) := by decide +kernel
theorem dX7_contract_148 : decode cX7_contract 148 = .ok (.aload_n 0, 1) := by decide +kernel
theorem dX7_contract_149 : decode cX7_contract 149 = .ok (.getfield 105, 3) := by decide +kernel
theorem dX7_contract_152 : decode cX7_contract 152 = .ok (.iconst 1, 1) := by decide +kernel
theorem dX7_contract_153 : decode cX7_contract 153 = .ok (.isub, 1) := by decide +kernel
theorem dX7_contract_154 : decode cX7_contract 154 = .ok (.iaload, 1) := by decide +kernel
theorem dX7_contract_155 : decode cX7_contract 155 = .ok (.i2l, 1) := by decide +kernel
theorem dX7_contract_156 : decode cX7_contract 156 = .ok (.lastore, 1) := by decide +kernel
theorem dX7_contract_157 : decode cX7_contract 157 = .ok (.aload_n 0, 1) := by decide +kernel
theorem dX7_contract_158 : decode cX7_contract 158 = .ok (.getfield 88, 3) := by decide +kernel
theorem dX7_contract_161 : decode cX7_contract 161 = .ok (.aload_n 0, 1) := by decide +kernel
theorem dX7_contract_162 : decode cX7_contract 162 = .ok (.getfield 174, 3) := by decide +kernel
theorem dX7_contract_165 : decode cX7_contract 165 = .ok (.aload_n 0, 1) := by decide +kernel
theorem dX7_contract_166 : decode cX7_contract 166 = .ok (.getfield 105, 3) := by decide +kernel
theorem dX7_contract_169 : decode cX7_contract 169 = .ok (.iconst 1, 1) := by decide +kernel
theorem dX7_contract_170 : decode cX7_contract 170 = .ok (.isub, 1) := by decide +kernel
theorem dX7_contract_171 : decode cX7_contract 171 = .ok (.iastore, 1) := by decide +kernel
theorem dX7_contract_172 : decode cX7_contract 172 = .ok (.aload_n 0, 1) := by decide +kernel
theorem dX7_contract_173 : decode cX7_contract 173 = .ok (.dup, 1) := by decide +kernel
theorem dX7_contract_174 : decode cX7_contract 174 = .ok (.getfield 174, 3) := by decide +kernel
theorem dX7_contract_177 : decode cX7_contract 177 = .ok (.iconst 1, 1) := by decide +kernel
theorem dX7_contract_178 : decode cX7_contract 178 = .ok (.iadd, 1) := by decide +kernel
theorem dX7_contract_179 : decode cX7_contract 179 = .ok (.putfield 174, 3) := by decide +kernel
theorem dX7_contract_182 : decode cX7_contract 182 = .ok (.aload_n 0, 1) := by decide +kernel
theorem dX7_contract_183 : decode cX7_contract 183 = .ok (.getfield 174, 3) := by decide +kernel
theorem dX7_contract_186 : decode cX7_contract 186 = .ok (.iconst 1, 1) := by decide +kernel
theorem dX7_contract_187 : decode cX7_contract 187 = .ok (.isub, 1) := by decide +kernel
theorem dX7_contract_188 : decode cX7_contract 188 = .ok (.ireturn, 1) := by decide +kernel
set_option maxRecDepth 20000 in
theorem ggX7_price_X7_isItem : GoodIn wsX7_price wsX7_isItem := goodIn_r _ [7, 8, 9, 10, 6, 11, 23, 24, 25, 26, 27, 28, 29, 30, 31, 32, 33, 34, 35, 36, 37, 38, 39, 40, 41, 42, 43, 44, 45, 46, 47, 48, 49, 50, 51, 52, 53, 54, 55] (by decide +kernel) (by decide +kernel)
set_option maxRecDepth 20000 in
theorem gX7_price_X7_isItem : GoodIn wsX7_price (wsV RX7 112 RX7 yX7_isItem wsX7_isItem) := goodIn_app (goodIn_of _ (by decide +kernel)) ggX7_price_X7_isItem
set_option maxRecDepth 20000 in
theorem ggX7_price_X7_isOutlet : GoodIn wsX7_price wsX7_isOutlet := goodIn_r _ [14, 9, 10, 6, 11] (by decide +kernel) (by decide +kernel)
set_option maxRecDepth 20000 in
theorem gX7_price_X7_isOutlet : GoodIn wsX7_price (va_wsS RX7 115 yX7_isOutlet wsX7_isOutlet) := goodIn_app (goodIn_of _ (by decide +kernel)) ggX7_price_X7_isOutlet
set_option maxRecDepth 20000 in
theorem ggX7_price_X7_isPublished : GoodIn wsX7_price wsX7_isPublished := goodIn_r _ [18, 19, 9, 10, 6, 11, 23, 24, 25, 26, 27, 28, 29, 30, 31, 32, 33, 34, 35, 36, 37, 38, 39, 40, 41, 42, 43, 44, 45, 46, 47, 48, 49, 50, 51, 52, 53, 54, 55] (by decide +kernel) (by decide +kernel)
set_option maxRecDepth 20000 in
theorem gX7_price_X7_isPublished : GoodIn wsX7_price (wsV RX7 185 RX7 yX7_isPublished wsX7_isPublished) := goodIn_app (goodIn_of _ (by decide +kernel)) ggX7_price_X7_isPublished
set_option maxRecDepth 20000 in
theorem ggX7_price_X7_cell : GoodIn wsX7_price wsX7_cell := goodIn_r _ [22] (by decide +kernel) (by decide +kernel)
set_option maxRecDepth 20000 in
theorem gX7_price_X7_cell : GoodIn wsX7_price (va_wsS RX7 119 yX7_cell wsX7_cell) := goodIn_app (goodIn_of _ (by decide +kernel)) ggX7_price_X7_cell
theorem dX7_price_0 : decode cX7_price 0 = .ok (.aload_n 0, 1) := by decide +kernel
theorem dX7_price_1 : decode cX7_price 1 = .ok (.aload_n 0, 1) := by decide +kernel
theorem dX7_price_2 : decode cX7_price 2 = .ok (.iload_n 1, 1) := by decide +kernel
theorem dX7_price_3 : decode cX7_price 3 = .ok (.invokevirtual 112, 3) := by decide +kernel
theorem dX7_price_6 : decode cX7_price 6 = .ok (.ifCond .eq 22, 3) := by decide +kernel

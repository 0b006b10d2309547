theorem dL_number_25 : decode cL_number 25 = .ok (.dmul, 1) := by decide +kernel
theorem dL_number_26 : decode cL_number 26 = .ok (.ldc2_w 81, 3) := by decide +kernel
theorem dL_number_29 : decode cL_number 29 = .ok (.dadd, 1) := by decide +kernel
theorem dL_number_30 : decode cL_number 30 = .ok (.dstore 11, 2) := by decide +kernel
theorem dL_number_32 : decode cL_number 32 = .ok (.dload 11, 2) := by decide +kernel
theorem dL_number_34 : decode cL_number 34 = .ok (.dconst 1, 1) := by decide +kernel
theorem dL_number_35 : decode cL_number 35 = .ok (.dcmp .g, 1) := by decide +kernel
theorem dL_number_36 : decode cL_number 36 = .ok (.ifCond .ge 7, 3) := by decide +kernel
theorem dL_number_39 : decode cL_number 39 = .ok (.iconst 1, 1) := by decide +kernel
theorem dL_number_40 : decode cL_number 40 = .ok (.goto 20, 3) := by decide +kernel
theorem dL_number_43 : decode cL_number 43 = .ok (.dload 11, 2) := by decide +kernel
theorem dL_number_45 : decode cL_number 45 = .ok (.ldc2_w 83, 3) := by decide +kernel
theorem dL_number_48 : decode cL_number 48 = .ok (.dcmp .l, 1) := by decide +kernel
theorem dL_number_49 : decode cL_number 49 = .ok (.ifCond .lt 8, 3) := by decide +kernel
theorem dL_number_52 : decode cL_number 52 = .ok (.ldc 9, 2) := by decide +kernel
theorem dL_number_54 : decode cL_number 54 = .ok (.goto 6, 3) := by decide +kernel
theorem dL_number_57 : decode cL_number 57 = .ok (.dload 11, 2) := by decide +kernel
theorem dL_number_59 : decode cL_number 59 = .ok (.d2i, 1) := by decide +kernel
theorem dL_number_60 : decode cL_number 60 = .ok (.ireturn, 1) := by decide +kernel
theorem dL_tied_0 : decode cL_tied 0 = .ok (.lload_n 2, 1) := by decide +kernel
theorem dL_tied_1 : decode cL_tied 1 = .ok (.ldc2_w 85, 3) := by decide +kernel
theorem dL_tied_4 : decode cL_tied 4 = .ok (.lmul, 1) := by decide +kernel
theorem dL_tied_5 : decode cL_tied 5 = .ok (.lload 4, 2) := by decide +kernel
theorem dL_tied_7 : decode cL_tied 7 = .ok (.ldc2_w 85, 3) := by decide +kernel
theorem dL_tied_10 : decode cL_tied 10 = .ok (.lmul, 1) := by decide +kernel
theorem dL_tied_11 : decode cL_tied 11 = .ok (.lsub, 1) := by decide +kernel
theorem dL_tied_12 : decode cL_tied 12 = .ok (.lload 4, 2) := by decide +kernel
theorem dL_tied_14 : decode cL_tied 14 = .ok (.lload 6, 2) := by decide +kernel
theorem dL_tied_16 : decode cL_tied 16 = .ok (.lmul, 1) := by decide +kernel
theorem dL_tied_17 : decode cL_tied 17 = .ok (.lcmp, 1) := by decide +kernel
theorem dL_tied_18 : decode cL_tied 18 = .ok (.ifCond .lt 7, 3) := by decide +kernel
theorem dL_tied_21 : decode cL_tied 21 = .ok (.iconst 1, 1) := by decide +kernel
theorem dL_tied_22 : decode cL_tied 22 = .ok (.goto 4, 3) := by decide +kernel
theorem dL_tied_25 : decode cL_tied 25 = .ok (.iconst 0, 1) := by decide +kernel
theorem dL_tied_26 : decode cL_tied 26 = .ok (.istore 9, 2) := by decide +kernel
theorem dL_tied_28 : decode cL_tied 28 = .ok (.iload 8, 2) := by decide +kernel
theorem dL_tied_30 : decode cL_tied 30 = .ok (.ifCond .ne 28, 3) := by decide +kernel
theorem dL_tied_33 : decode cL_tied 33 = .ok (.lload 4, 2) := by decide +kernel
theorem dL_tied_35 : decode cL_tied 35 = .ok (.ldc2_w 85, 3) := by decide +kernel
theorem dL_tied_38 : decode cL_tied 38 = .ok (.lmul, 1) := by decide +kernel
theorem dL_tied_39 : decode cL_tied 39 = .ok (.lload_n 2, 1) := by decide +kernel
theorem dL_tied_40 : decode cL_tied 40 = .ok (.ldc2_w 85, 3) := by decide +kernel
theorem dL_tied_43 : decode cL_tied 43 = .ok (.lmul, 1) := by decide +kernel
theorem dL_tied_44 : decode cL_tied 44 = .ok (.lsub, 1) := by decide +kernel
theorem dL_tied_45 : decode cL_tied 45 = .ok (.lload 4, 2) := by decide +kernel
theorem dL_tied_47 : decode cL_tied 47 = .ok (.lload 6, 2) := by decide +kernel
theorem dL_tied_49 : decode cL_tied 49 = .ok (.lmul, 1) := by decide +kernel
theorem dL_tied_50 : decode cL_tied 50 = .ok (.lcmp, 1) := by decide +kernel
theorem dL_tied_51 : decode cL_tied 51 = .ok (.ifCond .lt 7, 3) := by decide +kernel
theorem dL_tied_54 : decode cL_tied 54 = .ok (.iconst 1, 1) := by decide +kernel
theorem dL_tied_55 : decode cL_tied 55 = .ok (.goto 4, 3) := by decide +kernel
theorem dL_tied_58 : decode cL_tied 58 = .ok (.iconst 0, 1) := by decide +kernel
theorem dL_tied_59 : decode cL_tied 59 = .ok (.istore 10, 2) := by decide +kernel
theorem dL_tied_61 : decode cL_tied 61 = .ok (.lload_n 0, 1) := by decide +kernel
theorem dL_tied_62 : decode cL_tied 62 = .ok (.lload_n 2, 1) := by decide +kernel
theorem dL_tied_63 : decode cL_tied 63 = .ok (.lmul, 1) := by decide +kernel
theorem dL_tied_64 : decode cL_tied 64 = .ok (.lload 4, 2) := by decide +kernel
theorem dL_tied_66 : decode cL_tied 66 = .ok (.ldiv, 1) := by decide +kernel
theorem dL_tied_67 : decode cL_tied 67 = .ok (.lstore 11, 2) := by decide +kernel
theorem dL_tied_69 : decode cL_tied 69 = .ok (.iload 9, 2) := by decide +kernel
theorem dL_tied_71 : decode cL_tied 71 = .ok (.ifCond .ne 8, 3) := by decide +kernel
theorem dL_tied_74 : decode cL_tied 74 = .ok (.iload 10, 2) := by decide +kernel
theorem dL_tied_76 : decode cL_tied 76 = .ok (.ifCond .eq 23, 3) := by decide +kernel
theorem dL_tied_79 : decode cL_tied 79 = .ok (.lload 11, 2) := by decide +kernel
theorem dL_tied_81 : decode cL_tied 81 = .ok (.ldc2_w 87, 3) := by decide +kernel
theorem dL_tied_84 : decode cL_tied 84 = .ok (.lcmp, 1) := by decide +kernel
theorem dL_tied_85 : decode cL_tied 85 = .ok (.ifCond .ge 8, 3) := by decide +kernel
theorem dL_tied_88 : decode cL_tied 88 = .ok (.lload 11, 2) := by decide +kernel
theorem dL_tied_90 : decode cL_tied 90 = .ok (.goto 12, 3) := by decide +kernel
theorem dL_tied_93 : decode cL_tied 93 = .ok (.ldc2_w 87, 3) := by decide +kernel
theorem dL_tied_96 : decode cL_tied 96 = .ok (.goto 6, 3) := by decide +kernel
theorem dL_tied_99 : decode cL_tied 99 = .ok (.ldc2_w 89, 3) := by decide +kernel
theorem dL_tied_102 : decode cL_tied 102 = .ok (.lreturn, 1) := by decide +kernel
set_option maxRecDepth 20000 in
theorem ggL_due_L_number : GoodIn wsL_due wsL_number := goodIn_r _ [4, 5, 6, 7, 8, 9, 10, 3, 11, 12, 13, 14, 15, 16, 17, 18, 19, 20, 21, 22, 23, 24, 25, 26, 27, 28, 29, 30, 31, 32, 33, 34, 35, 36] rfl (by decide +kernel)
set_option maxRecDepth 20000 in
theorem gL_due_L_number : GoodIn wsL_due (va_wsS RL 91 yL_number wsL_number) := goodIn_app (goodIn_of _ (by decide +kernel)) ggL_due_L_number
set_option maxRecDepth 20000 in
theorem ggL_due_L_tied : GoodIn wsL_due wsL_tied := goodIn_r _ [39, 40, 41, 42] (by decide +kernel) (by decide +kernel)
set_option maxRecDepth 20000 in
theorem gL_due_L_tied : GoodIn wsL_due (va_wsS RL 95 yL_tied wsL_tied) := goodIn_app (goodIn_of _ (by decide +kernel)) ggL_due_L_tied
theorem dL_due_0 : decode cL_due 0 = .ok (.aload_n 1, 1) := by decide +kernel
theorem dL_due_1 : decode cL_due 1 = .ok (.bipush 10, 2) := by decide +kernel
theorem dL_due_3 : decode cL_due 3 = .ok (.iload_n 0, 1) := by decide +kernel
theorem dL_due_4 : decode cL_due 4 = .ok (.imul, 1) := by decide +kernel
theorem dL_due_5 : decode cL_due 5 = .ok (.bipush 7, 2) := by decide +kernel
theorem dL_due_7 : decode cL_due 7 = .ok (.iadd, 1) := by decide +kernel
theorem dL_due_8 : decode cL_due 8 = .ok (.laload, 1) := by decide +kernel
theorem dL_due_9 : decode cL_due 9 = .ok (.lstore 11, 2) := by decide +kernel
theorem dL_due_11 : decode cL_due 11 = .ok (.aload_n 1, 1) := by decide +kernel
theorem dL_due_12 : decode cL_due 12 = .ok (.bipush 10, 2) := by decide +kernel
theorem dL_due_14 : decode cL_due 14 = .ok (.iload_n 0, 1) := by decide +kernel
theorem dL_due_15 : decode cL_due 15 = .ok (.imul, 1) := by decide +kernel
theorem dL_due_16 : decode cL_due 16 = .ok (.bipush 8, 2) := by decide +kernel
theorem dL_due_18 : decode cL_due 18 = .ok (.iadd, 1) := by decide +kernel
theorem dL_due_19 : decode cL_due 19 = .ok (.laload, 1) := by decide +kernel
theorem dL_due_20 : decode cL_due 20 = .ok (.l2i, 1) := by decide +kernel
theorem dL_due_21 : decode cL_due 21 = .ok (.istore 13, 2) := by decide +kernel
theorem dL_due_23 : decode cL_due 23 = .ok (.iload 13, 2) := by decide +kernel
theorem dL_due_25 : decode cL_due 25 = .ok (.iconst 1, 1) := by decide +kernel
theorem dL_due_26 : decode cL_due 26 = .ok (.aload_n 2, 1) := by decide +kernel
theorem dL_due_27 : decode cL_due 27 = .ok (.aload_n 3, 1) := by decide +kernel
theorem dL_due_28 : decode cL_due 28 = .ok (.aload 4, 2) := by decide +kernel
theorem dL_due_30 : decode cL_due 30 = .ok (.aload 5, 2) := by decide +kernel
theorem dL_due_32 : decode cL_due 32 = .ok (.aload 6, 2) := by decide +kernel
theorem dL_due_34 : decode cL_due 34 = .ok (.aload 7, 2) := by decide +kernel
theorem dL_due_36 : decode cL_due 36 = .ok (.aload 8, 2) := by decide +kernel
theorem dL_due_38 : decode cL_due 38 = .ok (.aload 9, 2) := by decide +kernel
theorem dL_due_40 : decode cL_due 40 = .ok (.aload 10, 2) := by decide +kernel
theorem dL_due_42 : decode cL_due 42 = .ok (.invokestatic 91, 3) := by decide +kernel
theorem dL_due_45 : decode cL_due 45 = .ok (.i2l, 1) := by decide +kernel
theorem dL_due_46 : decode cL_due 46 = .ok (.lstore 14, 2) := by decide +kernel
theorem dL_due_48 : decode cL_due 48 = .ok (.lconst 0, 1) := by decide +kernel
theorem dL_due_49 : decode cL_due 49 = .ok (.lstore 16, 2) := by decide +kernel
theorem dL_due_51 : decode cL_due 51 = .ok (.aload_n 1, 1) := by decide +kernel
theorem dL_due_52 : decode cL_due 52 = .ok (.bipush 10, 2) := by decide +kernel
theorem dL_due_54 : decode cL_due 54 = .ok (.iload_n 0, 1) := by decide +kernel
theorem dL_due_55 : decode cL_due 55 = .ok (.imul, 1) := by decide +kernel
theorem dL_due_56 : decode cL_due 56 = .ok (.bipush 8, 2) := by decide +kernel
theorem dL_due_58 : decode cL_due 58 = .ok (.iadd, 1) := by decide +kernel
theorem dL_due_59 : decode cL_due 59 = .ok (.laload, 1) := by decide +kernel
theorem dL_due_60 : decode cL_due 60 = .ok (.l2i, 1) := by decide +kernel
theorem dL_due_61 : decode cL_due 61 = .ok (.iconst 1, 1) := by decide +kernel
theorem dL_due_62 : decode cL_due 62 = .ok (.iadd, 1) := by decide +kernel
theorem dL_due_63 : decode cL_due 63 = .ok (.istore 18, 2) := by decide +kernel
theorem dL_due_65 : decode cL_due 65 = .ok (.iload 18, 2) := by decide +kernel
theorem dL_due_67 : decode cL_due 67 = .ok (.aload 10, 2) := by decide +kernel
theorem dL_due_69 : decode cL_due 69 = .ok (.iconst 1, 1) := by decide +kernel
theorem dL_due_70 : decode cL_due 70 = .ok (.iaload, 1) := by decide +kernel
theorem dL_due_71 : decode cL_due 71 = .ok (.if_icmp .ge 147, 3) := by decide +kernel
theorem dL_due_74 : decode cL_due 74 = .ok (.iload 18, 2) := by decide +kernel
theorem dL_due_76 : decode cL_due 76 = .ok (.aload_n 1, 1) := by decide +kernel
theorem dL_due_77 : decode cL_due 77 = .ok (.bipush 10, 2) := by decide +kernel
theorem dL_due_79 : decode cL_due 79 = .ok (.iload_n 0, 1) := by decide +kernel
theorem dL_due_80 : decode cL_due 80 = .ok (.imul, 1) := by decide +kernel
theorem dL_due_81 : decode cL_due 81 = .ok (.iconst 1, 1) := by decide +kernel
theorem dL_due_82 : decode cL_due 82 = .ok (.iadd, 1) := by decide +kernel
theorem dL_due_83 : decode cL_due 83 = .ok (.laload, 1) := by decide +kernel
theorem dL_due_84 : decode cL_due 84 = .ok (.l2i, 1) := by decide +kernel
theorem dL_due_85 : decode cL_due 85 = .ok (.isub, 1) := by decide +kernel
theorem dL_due_86 : decode cL_due 86 = .ok (.istore 19, 2) := by decide +kernel
theorem dL_due_88 : decode cL_due 88 = .ok (.iload 19, 2) := by decide +kernel
theorem dL_due_90 : decode cL_due 90 = .ok (.iload 13, 2) := by decide +kernel
theorem dL_due_92 : decode cL_due 92 = .ok (.if_icmp .le 113, 3) := by decide +kernel
theorem dL_due_95 : decode cL_due 95 = .ok (.iload 19, 2) := by decide +kernel
theorem dL_due_97 : decode cL_due 97 = .ok (.iconst 1, 1) := by decide +kernel
theorem dL_due_98 : decode cL_due 98 = .ok (.aload_n 2, 1) := by decide +kernel
theorem dL_due_99 : decode cL_due 99 = .ok (.aload_n 3, 1) := by decide +kernel
theorem dL_due_100 : decode cL_due 100 = .ok (.aload 4, 2) := by decide +kernel
theorem dL_due_102 : decode cL_due 102 = .ok (.aload 5, 2) := by decide +kernel
theorem dL_due_104 : decode cL_due 104 = .ok (.aload 6, 2) := by decide +kernel
theorem dL_due_106 : decode cL_due 106 = .ok (.aload 7, 2) := by decide +kernel
theorem dL_due_108 : decode cL_due 108 = .ok (.aload 8, 2) := by decide +kernel
theorem dL_due_110 : decode cL_due 110 = .ok (.aload 9, 2) := by decide +kernel
theorem dL_due_112 : decode cL_due 112 = .ok (.aload 10, 2) := by decide +kernel
theorem dL_due_114 : decode cL_due 114 = .ok (.invokestatic 91, 3) := by decide +kernel
theorem dL_due_117 : decode cL_due 117 = .ok (.i2l, 1) := by decide +kernel
theorem dL_due_118 : decode cL_due 118 = .ok (.lstore 20, 2) := by decide +kernel
theorem dL_due_120 : decode cL_due 120 = .ok (.lload 11, 2) := by decide +kernel
theorem dL_due_122 : decode cL_due 122 = .ok (.lload 20, 2) := by decide +kernel
theorem dL_due_124 : decode cL_due 124 = .ok (.lload 14, 2) := by decide +kernel
theorem dL_due_126 : decode cL_due 126 = .ok (.aload_n 1, 1) := by decide +kernel
theorem dL_due_127 : decode cL_due 127 = .ok (.bipush 10, 2) := by decide +kernel
theorem dL_due_129 : decode cL_due 129 = .ok (.iload_n 0, 1) := by decide +kernel
theorem dL_due_130 : decode cL_due 130 = .ok (.imul, 1) := by decide +kernel
theorem dL_due_131 : decode cL_due 131 = .ok (.iconst 2, 1) := by decide +kernel
theorem dL_due_132 : decode cL_due 132 = .ok (.iadd, 1) := by decide +kernel
theorem dL_due_133 : decode cL_due 133 = .ok (.laload, 1) := by decide +kernel
theorem dL_due_134 : decode cL_due 134 = .ok (.aload_n 1, 1) := by decide +kernel
theorem dL_due_135 : decode cL_due 135 = .ok (.bipush 10, 2) := by decide +kernel
theorem dL_due_137 : decode cL_due 137 = .ok (.iload_n 0, 1) := by decide +kernel
theorem dL_due_138 : decode cL_due 138 = .ok (.imul, 1) := by decide +kernel
theorem dL_due_139 : decode cL_due 139 = .ok (.iconst 3, 1) := by decide +kernel
theorem dL_due_140 : decode cL_due 140 = .ok (.iadd, 1) := by decide +kernel
theorem dL_due_141 : decode cL_due 141 = .ok (.laload, 1) := by decide +kernel
theorem dL_due_142 : decode cL_due 142 = .ok (.lconst 1, 1) := by decide +kernel
theorem dL_due_143 : decode cL_due 143 = .ok (.lcmp, 1) := by decide +kernel
theorem dL_due_144 : decode cL_due 144 = .ok (.ifCond .ne 7, 3) := by decide +kernel
theorem dL_due_147 : decode cL_due 147 = .ok (.iconst 1, 1) := by decide +kernel
theorem dL_due_148 : decode cL_due 148 = .ok (.goto 4, 3) := by decide +kernel
theorem dL_due_151 : decode cL_due 151 = .ok (.iconst 0, 1) := by decide +kernel
theorem dL_due_152 : decode cL_due 152 = .ok (.invokestatic 95, 3) := by decide +kernel
theorem dL_due_155 : decode cL_due 155 = .ok (.lstore 22, 2) := by decide +kernel
theorem dL_due_157 : decode cL_due 157 = .ok (.lload 22, 2) := by decide +kernel
theorem dL_due_159 : decode cL_due 159 = .ok (.lconst 0, 1) := by decide +kernel
theorem dL_due_160 : decode cL_due 160 = .ok (.lcmp, 1) := by decide +kernel
theorem dL_due_161 : decode cL_due 161 = .ok (.ifCond .ge 8, 3) := by decide +kernel
theorem dL_due_164 : decode cL_due 164 = .ok (.iload 13, 2) := by decide +kernel
theorem dL_due_166 : decode cL_due 166 = .ok (.goto 5, 3) := by decide +kernel
theorem dL_due_169 : decode cL_due 169 = .ok (.iload 19, 2) := by decide +kernel
theorem dL_due_171 : decode cL_due 171 = .ok (.istore 13, 2) := by decide +kernel
theorem dL_due_173 : decode cL_due 173 = .ok (.lload 22, 2) := by decide +kernel
theorem dL_due_175 : decode cL_due 175 = .ok (.lconst 0, 1) := by decide +kernel
theorem dL_due_176 : decode cL_due 176 = .ok (.lcmp, 1) := by decide +kernel
theorem dL_due_177 : decode cL_due 177 = .ok (.ifCond .ge 8, 3) := by decide +kernel
theorem dL_due_180 : decode cL_due 180 = .ok (.lload 14, 2) := by decide +kernel
theorem dL_due_182 : decode cL_due 182 = .ok (.goto 5, 3) := by decide +kernel
theorem dL_due_185 : decode cL_due 185 = .ok (.lload 20, 2) := by decide +kernel
theorem dL_due_187 : decode cL_due 187 = .ok (.lstore 14, 2) := by decide +kernel
theorem dL_due_189 : decode cL_due 189 = .ok (.lload 22, 2) := by decide +kernel
theorem dL_due_191 : decode cL_due 191 = .ok (.lconst 0, 1) := by decide +kernel
theorem dL_due_192 : decode cL_due 192 = .ok (.lcmp, 1) := by decide +kernel
theorem dL_due_193 : decode cL_due 193 = .ok (.ifCond .ge 8, 3) := by decide +kernel
theorem dL_due_196 : decode cL_due 196 = .ok (.lload 11, 2) := by decide +kernel
theorem dL_due_198 : decode cL_due 198 = .ok (.goto 5, 3) := by decide +kernel
theorem dL_due_201 : decode cL_due 201 = .ok (.lload 22, 2) := by decide +kernel
theorem dL_due_203 : decode cL_due 203 = .ok (.lstore 11, 2) := by decide +kernel
theorem dL_due_205 : decode cL_due 205 = .ok (.lload 16, 2) := by decide +kernel
theorem dL_due_207 : decode cL_due 207 = .ok (.lload 11, 2) := by decide +kernel
theorem dL_due_209 : decode cL_due 209 = .ok (.ladd, 1) := by decide +kernel
theorem dL_due_210 : decode cL_due 210 = .ok (.lstore 16, 2) := by decide +kernel
theorem dL_due_212 : decode cL_due 212 = .ok (.iinc 18 1, 3) := by decide +kernel
theorem dL_due_215 : decode cL_due 215 = .ok (.goto (-150), 3) := by decide +kernel
theorem dL_due_218 : decode cL_due 218 = .ok (.lload 16, 2) := by decide +kernel
theorem dL_due_220 : decode cL_due 220 = .ok (.lreturn, 1) := by decide +kernel
set_option maxRecDepth 20000 in
theorem ggL_published_L_number : GoodIn wsL_published wsL_number := goodIn_r _ [4, 5, 6, 7, 8, 9, 10, 3, 11, 12, 13, 14, 15, 16, 17, 18, 19, 20, 21, 22, 23, 24, 25, 26, 27, 28, 29, 30, 31, 32, 33, 34, 35, 36] rfl (by decide +kernel)
set_option maxRecDepth 20000 in
theorem gL_published_L_number : GoodIn wsL_published (va_wsS RL 91 yL_number wsL_number) := goodIn_app (goodIn_of _ (by decide +kernel)) ggL_published_L_number
set_option maxRecDepth 20000 in
theorem ggL_published_L_tied : GoodIn wsL_published wsL_tied := goodIn_r _ [39, 40, 41, 42] (by decide +kernel) (by decide +kernel)
set_option maxRecDepth 20000 in
theorem gL_published_L_tied : GoodIn wsL_published (va_wsS RL 95 yL_tied wsL_tied) := goodIn_app (goodIn_of _ (by decide +kernel)) ggL_published_L_tied
set_option maxRecDepth 20000 in
theorem ggL_published_X6_publish : GoodIn wsL_published wsX6_publish := goodIn_ca (goodIn_r _ [47, 48, 49, 50, 51, 52, 53, 54, 55, 56, 57, 46, 58, 59, 60, 61, 62, 63, 64, 65, 66, 67, 68, 69, 70, 71, 72, 73, 74, 75, 76, 77, 78, 79, 80, 81, 82, 83, 84, 85, 86, 87, 88, 89, 90, 91, 92, 93, 94, 95, 96, 97, 98, 99, 100, 101, 102, 103, 104, 105, 106, 107, 108, 109, 110, 111, 112, 113, 114, 115, 116, 117, 118, 119, 120, 121, 122, 123, 124, 125, 126, 127, 128, 129, 130, 131, 132, 133, 134, 135, 136, 137, 138, 139, 140, 141, 142, 143, 144, 145, 146, 147, 148, 149, 150, 151, 152, 153, 154, 155, 156, 157, 158, 159, 160, 161, 162, 163, 164, 165, 166, 167, 168, 169, 170, 171, 172, 173, 174, 175, 176, 177, 178, 179, 180, 181, 182, 183, 184, 185, 186, 187, 188, 189, 190, 191, 192, 193, 194, 195, 196, 197, 198, 199, 200, 201, 202, 203, 204, 205, 206, 207, 208, 209, 210, 211, 212, 213, 214, 215, 216, 217, 218, 219, 220, 221, 222, 223, 224, 225, 226, 227, 228, 229, 230, 231, 232, 233, 234, 235, 236, 237, 238, 239, 240, 241, 242, 243, 244, 245, 246, 247, 248, 249, 250, 251, 252, 253, 254, 255, 256, 257, 258, 259, 260, 261, 262, 263, 264, 265, 266, 267, 268, 269, 270, 271, 272, 273, 274, 275, 276, 277, 278, 279, 280, 281, 282, 283, 284, 285, 286, 287, 288, 289, 290, 291] (by decide +kernel) (by decide +kernel)) (goodIn_sub (fun _ h => List.mem_cons_of_mem _ (List.mem_append_right _ h)) (by decide +kernel))
set_option maxRecDepth 20000 in
theorem gL_published_X6_publish : GoodIn wsL_published (wsV RL 99 RX6 yX6_publish wsX6_publish) := goodIn_app (goodIn_of _ (by decide +kernel)) ggL_published_X6_publish
theorem dL_published_0 : decode cL_published 0 = .ok (.iconst 0, 1) := by decide +kernel
theorem dL_published_1 : decode cL_published 1 = .ok (.istore 12, 2) := by decide +kernel
theorem dL_published_3 : decode cL_published 3 = .ok (.iload 12, 2) := by decide +kernel
theorem dL_published_5 : decode cL_published 5 = .ok (.bipush 12, 2) := by decide +kernel
theorem dL_published_7 : decode cL_published 7 = .ok (.if_icmp .ge 27, 3) := by decide +kernel
theorem dL_published_10 : decode cL_published 10 = .ok (.aload 8, 2) := by decide +kernel
theorem dL_published_12 : decode cL_published 12 = .ok (.bipush 12, 2) := by decide +kernel
theorem dL_published_14 : decode cL_published 14 = .ok (.aload 11, 2) := by decide +kernel
theorem dL_published_16 : decode cL_published 16 = .ok (.iconst 1, 1) := by decide +kernel
theorem dL_published_17 : decode cL_published 17 = .ok (.iaload, 1) := by decide +kernel
theorem dL_published_18 : decode cL_published 18 = .ok (.imul, 1) := by decide +kernel
theorem dL_published_19 : decode cL_published 19 = .ok (.iload 12, 2) := by decide +kernel
theorem dL_published_21 : decode cL_published 21 = .ok (.iadd, 1) := by decide +kernel
theorem dL_published_22 : decode cL_published 22 = .ok (.aload 9, 2) := by decide +kernel
theorem dL_published_24 : decode cL_published 24 = .ok (.iload 12, 2) := by decide +kernel
theorem dL_published_26 : decode cL_published 26 = .ok (.iaload, 1) := by decide +kernel
theorem dL_published_27 : decode cL_published 27 = .ok (.iastore, 1) := by decide +kernel
theorem dL_published_28 : decode cL_published 28 = .ok (.iinc 12 1, 3) := by decide +kernel
theorem dL_published_31 : decode cL_published 31 = .ok (.goto (-28), 3) := by decide +kernel
theorem dL_published_34 : decode cL_published 34 = .ok (.aload 11, 2) := by decide +kernel
theorem dL_published_36 : decode cL_published 36 = .ok (.iconst 1, 1) := by decide +kernel
theorem dL_published_37 : decode cL_published 37 = .ok (.iaload, 1) := by decide +kernel
theorem dL_published_38 : decode cL_published 38 = .ok (.istore 12, 2) := by decide +kernel
theorem dL_published_40 : decode cL_published 40 = .ok (.iload 12, 2) := by decide +kernel
theorem dL_published_42 : decode cL_published 42 = .ok (.iconst 0, 1) := by decide +kernel
theorem dL_published_43 : decode cL_published 43 = .ok (.aload_n 1, 1) := by decide +kernel
theorem dL_published_44 : decode cL_published 44 = .ok (.aload_n 2, 1) := by decide +kernel
theorem dL_published_45 : decode cL_published 45 = .ok (.aload_n 3, 1) := by decide +kernel
theorem dL_published_46 : decode cL_published 46 = .ok (.aload 4, 2) := by decide +kernel
theorem dL_published_48 : decode cL_published 48 = .ok (.aload 5, 2) := by decide +kernel
theorem dL_published_50 : decode cL_published 50 = .ok (.aload 6, 2) := by decide +kernel
theorem dL_published_52 : decode cL_published 52 = .ok (.aload 7, 2) := by decide +kernel
theorem dL_published_54 : decode cL_published 54 = .ok (.aload 8, 2) := by decide +kernel
theorem dL_published_56 : decode cL_published 56 = .ok (.aload 11, 2) := by decide +kernel
theorem dL_published_58 : decode cL_published 58 = .ok (.invokestatic 91, 3) := by decide +kernel
theorem dL_published_61 : decode cL_published 61 = .ok (.istore 13, 2) := by decide +kernel
theorem dL_published_63 : decode cL_published 63 = .ok (.iconst 0, 1) := by decide +kernel
theorem dL_published_64 : decode cL_published 64 = .ok (.istore 14, 2) := by decide +kernel
theorem dL_published_66 : decode cL_published 66 = .ok (.iload 14, 2) := by decide +kernel
theorem dL_published_68 : decode cL_published 68 = .ok (.aload 11, 2) := by decide +kernel
theorem dL_published_70 : decode cL_published 70 = .ok (.iconst 3, 1) := by decide +kernel
theorem dL_published_71 : decode cL_published 71 = .ok (.iaload, 1) := by decide +kernel
theorem dL_published_72 : decode cL_published 72 = .ok (.if_icmp .ge 236, 3) := by decide +kernel
theorem dL_published_75 : decode cL_published 75 = .ok (.iload 12, 2) := by decide +kernel
theorem dL_published_77 : decode cL_published 77 = .ok (.aload 10, 2) := by decide +kernel
theorem dL_published_79 : decode cL_published 79 = .ok (.bipush 10, 2) := by decide +kernel
theorem dL_published_81 : decode cL_published 81 = .ok (.iload 14, 2) := by decide +kernel
theorem dL_published_83 : decode cL_published 83 = .ok (.imul, 1) := by decide +kernel
theorem dL_published_84 : decode cL_published 84 = .ok (.iconst 1, 1) := by decide +kernel
theorem dL_published_85 : decode cL_published 85 = .ok (.iadd, 1) := by decide +kernel
theorem dL_published_86 : decode cL_published 86 = .ok (.laload, 1) := by decide +kernel
theorem dL_published_87 : decode cL_published 87 = .ok (.l2i, 1) := by decide +kernel
theorem dL_published_88 : decode cL_published 88 = .ok (.isub, 1) := by decide +kernel
theorem dL_published_89 : decode cL_published 89 = .ok (.istore 15, 2) := by decide +kernel
theorem dL_published_91 : decode cL_published 91 = .ok (.iload 15, 2) := by decide +kernel
theorem dL_published_93 : decode cL_published 93 = .ok (.i2l, 1) := by decide +kernel
theorem dL_published_94 : decode cL_published 94 = .ok (.aload 10, 2) := by decide +kernel
theorem dL_published_96 : decode cL_published 96 = .ok (.bipush 10, 2) := by decide +kernel
theorem dL_published_98 : decode cL_published 98 = .ok (.iload 14, 2) := by decide +kernel
theorem dL_published_100 : decode cL_published 100 = .ok (.imul, 1) := by decide +kernel
theorem dL_published_101 : decode cL_published 101 = .ok (.iconst 5, 1) := by decide +kernel
theorem dL_published_102 : decode cL_published 102 = .ok (.iadd, 1) := by decide +kernel
theorem dL_published_103 : decode cL_published 103 = .ok (.laload, 1) := by decide +kernel
theorem dL_published_104 : decode cL_published 104 = .ok (.lcmp, 1) := by decide +kernel
theorem dL_published_105 : decode cL_published 105 = .ok (.ifCond .le 175, 3) := by decide +kernel
theorem dL_published_108 : decode cL_published 108 = .ok (.iload 15, 2) := by decide +kernel
theorem dL_published_110 : decode cL_published 110 = .ok (.iconst 0, 1) := by decide +kernel
theorem dL_published_111 : decode cL_published 111 = .ok (.aload_n 1, 1) := by decide +kernel
theorem dL_published_112 : decode cL_published 112 = .ok (.aload_n 2, 1) := by decide +kernel
theorem dL_published_113 : decode cL_published 113 = .ok (.aload_n 3, 1) := by decide +kernel
theorem dL_published_114 : decode cL_published 114 = .ok (.aload 4, 2) := by decide +kernel
theorem dL_published_116 : decode cL_published 116 = .ok (.aload 5, 2) := by decide +kernel
theorem dL_published_118 : decode cL_published 118 = .ok (.aload 6, 2) := by decide +kernel
theorem dL_published_120 : decode cL_published 120 = .ok (.aload 7, 2) := by decide +kernel
theorem dL_published_122 : decode cL_published 122 = .ok (.aload 8, 2) := by decide +kernel
theorem dL_published_124 : decode cL_published 124 = .ok (.aload 11, 2) := by decide +kernel
theorem dL_published_126 : decode cL_published 126 = .ok (.invokestatic 91, 3) := by decide +kernel
theorem dL_published_129 : decode cL_published 129 = .ok (.i2l, 1) := by decide +kernel
theorem dL_published_130 : decode cL_published 130 = .ok (.lstore 16, 2) := by decide +kernel
theorem dL_published_132 : decode cL_published 132 = .ok (.aload 10, 2) := by decide +kernel
theorem dL_published_134 : decode cL_published 134 = .ok (.bipush 10, 2) := by decide +kernel
theorem dL_published_136 : decode cL_published 136 = .ok (.iload 14, 2) := by decide +kernel
theorem dL_published_138 : decode cL_published 138 = .ok (.imul, 1) := by decide +kernel
theorem dL_published_139 : decode cL_published 139 = .ok (.laload, 1) := by decide +kernel
theorem dL_published_140 : decode cL_published 140 = .ok (.lload 16, 2) := by decide +kernel
theorem dL_published_142 : decode cL_published 142 = .ok (.aload 10, 2) := by decide +kernel
theorem dL_published_144 : decode cL_published 144 = .ok (.bipush 10, 2) := by decide +kernel
theorem dL_published_146 : decode cL_published 146 = .ok (.iload 14, 2) := by decide +kernel
theorem dL_published_148 : decode cL_published 148 = .ok (.imul, 1) := by decide +kernel
theorem dL_published_149 : decode cL_published 149 = .ok (.iconst 4, 1) := by decide +kernel
theorem dL_published_150 : decode cL_published 150 = .ok (.iadd, 1) := by decide +kernel
theorem dL_published_151 : decode cL_published 151 = .ok (.laload, 1) := by decide +kernel
theorem dL_published_152 : decode cL_published 152 = .ok (.aload 10, 2) := by decide +kernel
theorem dL_published_154 : decode cL_published 154 = .ok (.bipush 10, 2) := by decide +kernel
theorem dL_published_156 : decode cL_published 156 = .ok (.iload 14, 2) := by decide +kernel
theorem dL_published_158 : decode cL_published 158 = .ok (.imul, 1) := by decide +kernel
theorem dL_published_159 : decode cL_published 159 = .ok (.iconst 2, 1) := by decide +kernel
theorem dL_published_160 : decode cL_published 160 = .ok (.iadd, 1) := by decide +kernel
theorem dL_published_161 : decode cL_published 161 = .ok (.laload, 1) := by decide +kernel
theorem dL_published_162 : decode cL_published 162 = .ok (.aload 10, 2) := by decide +kernel
theorem dL_published_164 : decode cL_published 164 = .ok (.bipush 10, 2) := by decide +kernel
theorem dL_published_166 : decode cL_published 166 = .ok (.iload 14, 2) := by decide +kernel
theorem dL_published_168 : decode cL_published 168 = .ok (.imul, 1) := by decide +kernel
theorem dL_published_169 : decode cL_published 169 = .ok (.iconst 3, 1) := by decide +kernel
theorem dL_published_170 : decode cL_published 170 = .ok (.iadd, 1) := by decide +kernel
theorem dL_published_171 : decode cL_published 171 = .ok (.laload, 1) := by decide +kernel
theorem dL_published_172 : decode cL_published 172 = .ok (.lconst 1, 1) := by decide +kernel
theorem dL_published_173 : decode cL_published 173 = .ok (.lcmp, 1) := by decide +kernel
theorem dL_published_174 : decode cL_published 174 = .ok (.ifCond .ne 7, 3) := by decide +kernel
theorem dL_published_177 : decode cL_published 177 = .ok (.iconst 1, 1) := by decide +kernel
theorem dL_published_178 : decode cL_published 178 = .ok (.goto 4, 3) := by decide +kernel
theorem dL_published_181 : decode cL_published 181 = .ok (.iconst 0, 1) := by decide +kernel
theorem dL_published_182 : decode cL_published 182 = .ok (.invokestatic 95, 3) := by decide +kernel
theorem dL_published_185 : decode cL_published 185 = .ok (.lstore 18, 2) := by decide +kernel
theorem dL_published_187 : decode cL_published 187 = .ok (.aload 10, 2) := by decide +kernel
theorem dL_published_189 : decode cL_published 189 = .ok (.bipush 10, 2) := by decide +kernel
theorem dL_published_191 : decode cL_published 191 = .ok (.iload 14, 2) := by decide +kernel
theorem dL_published_193 : decode cL_published 193 = .ok (.imul, 1) := by decide +kernel
theorem dL_published_194 : decode cL_published 194 = .ok (.iconst 4, 1) := by decide +kernel
theorem dL_published_195 : decode cL_published 195 = .ok (.iadd, 1) := by decide +kernel
theorem dL_published_196 : decode cL_published 196 = .ok (.lload 18, 2) := by decide +kernel
theorem dL_published_198 : decode cL_published 198 = .ok (.lconst 0, 1) := by decide +kernel
theorem dL_published_199 : decode cL_published 199 = .ok (.lcmp, 1) := by decide +kernel
theorem dL_published_200 : decode cL_published 200 = .ok (.ifCond .ge 16, 3) := by decide +kernel
theorem dL_published_203 : decode cL_published 203 = .ok (.aload 10, 2) := by decide +kernel
theorem dL_published_205 : decode cL_published 205 = .ok (.bipush 10, 2) := by decide +kernel
theorem dL_published_207 : decode cL_published 207 = .ok (.iload 14, 2) := by decide +kernel
theorem dL_published_209 : decode cL_published 209 = .ok (.imul, 1) := by decide +kernel
theorem dL_published_210 : decode cL_published 210 = .ok (.iconst 4, 1) := by decide +kernel
theorem dL_published_211 : decode cL_published 211 = .ok (.iadd, 1) := by decide +kernel
theorem dL_published_212 : decode cL_published 212 = .ok (.laload, 1) := by decide +kernel
theorem dL_published_213 : decode cL_published 213 = .ok (.goto 5, 3) := by decide +kernel
theorem dL_published_216 : decode cL_published 216 = .ok (.lload 16, 2) := by decide +kernel
theorem dL_published_218 : decode cL_published 218 = .ok (.lastore, 1) := by decide +kernel
theorem dL_published_219 : decode cL_published 219 = .ok (.aload 10, 2) := by decide +kernel
theorem dL_published_221 : decode cL_published 221 = .ok (.bipush 10, 2) := by decide +kernel
theorem dL_published_223 : decode cL_published 223 = .ok (.iload 14, 2) := by decide +kernel
theorem dL_published_225 : decode cL_published 225 = .ok (.imul, 1) := by decide +kernel
theorem dL_published_226 : decode cL_published 226 = .ok (.iconst 5, 1) := by decide +kernel
theorem dL_published_227 : decode cL_published 227 = .ok (.iadd, 1) := by decide +kernel
theorem dL_published_228 : decode cL_published 228 = .ok (.lload 18, 2) := by decide +kernel
theorem dL_published_230 : decode cL_published 230 = .ok (.lconst 0, 1) := by decide +kernel
theorem dL_published_231 : decode cL_published 231 = .ok (.lcmp, 1) := by decide +kernel
theorem dL_published_232 : decode cL_published 232 = .ok (.ifCond .ge 16, 3) := by decide +kernel
theorem dL_published_235 : decode cL_published 235 = .ok (.aload 10, 2) := by decide +kernel
theorem dL_published_237 : decode cL_published 237 = .ok (.bipush 10, 2) := by decide +kernel
theorem dL_published_239 : decode cL_published 239 = .ok (.iload 14, 2) := by decide +kernel
theorem dL_published_241 : decode cL_published 241 = .ok (.imul, 1) := by decide +kernel
theorem dL_published_242 : decode cL_published 242 = .ok (.iconst 5, 1) := by decide +kernel
theorem dL_published_243 : decode cL_published 243 = .ok (.iadd, 1) := by decide +kernel
theorem dL_published_244 : decode cL_published 244 = .ok (.laload, 1) := by decide +kernel
theorem dL_published_245 : decode cL_published 245 = .ok (.goto 6, 3) := by decide +kernel
theorem dL_published_248 : decode cL_published 248 = .ok (.iload 15, 2) := by decide +kernel
theorem dL_published_250 : decode cL_published 250 = .ok (.i2l, 1) := by decide +kernel
theorem dL_published_251 : decode cL_published 251 = .ok (.lastore, 1) := by decide +kernel
theorem dL_published_252 : decode cL_published 252 = .ok (.aload 10, 2) := by decide +kernel
theorem dL_published_254 : decode cL_published 254 = .ok (.bipush 10, 2) := by decide +kernel
theorem dL_published_256 : decode cL_published 256 = .ok (.iload 14, 2) := by decide +kernel
theorem dL_published_258 : decode cL_published 258 = .ok (.imul, 1) := by decide +kernel
theorem dL_published_259 : decode cL_published 259 = .ok (.lload 18, 2) := by decide +kernel
theorem dL_published_261 : decode cL_published 261 = .ok (.lconst 0, 1) := by decide +kernel
theorem dL_published_262 : decode cL_published 262 = .ok (.lcmp, 1) := by decide +kernel
theorem dL_published_263 : decode cL_published 263 = .ok (.ifCond .ge 14, 3) := by decide +kernel
theorem dL_published_266 : decode cL_published 266 = .ok (.aload 10, 2) := by decide +kernel
theorem dL_published_268 : decode cL_published 268 = .ok (.bipush 10, 2) := by decide +kernel
theorem dL_published_270 : decode cL_published 270 = .ok (.iload 14, 2) := by decide +kernel
theorem dL_published_272 : decode cL_published 272 = .ok (.imul, 1) := by decide +kernel
theorem dL_published_273 : decode cL_published 273 = .ok (.laload, 1) := by decide +kernel
theorem dL_published_274 : decode cL_published 274 = .ok (.goto 5, 3) := by decide +kernel
theorem dL_published_277 : decode cL_published 277 = .ok (.lload 18, 2) := by decide +kernel
theorem dL_published_279 : decode cL_published 279 = .ok (.lastore, 1) := by decide +kernel
theorem dL_published_280 : decode cL_published 280 = .ok (.aload 10, 2) := by decide +kernel
theorem dL_published_282 : decode cL_published 282 = .ok (.bipush 10, 2) := by decide +kernel
theorem dL_published_284 : decode cL_published 284 = .ok (.iload 14, 2) := by decide +kernel
theorem dL_published_286 : decode cL_published 286 = .ok (.imul, 1) := by decide +kernel
theorem dL_published_287 : decode cL_published 287 = .ok (.bipush 6, 2) := by decide +kernel
theorem dL_published_289 : decode cL_published 289 = .ok (.iadd, 1) := by decide +kernel
theorem dL_published_290 : decode cL_published 290 = .ok (.dup2, 1) := by decide +kernel
theorem dL_published_291 : decode cL_published 291 = .ok (.laload, 1) := by decide +kernel
theorem dL_published_292 : decode cL_published 292 = .ok (.aload 10, 2) := by decide +kernel
theorem dL_published_294 : decode cL_published 294 = .ok (.bipush 10, 2) := by decide +kernel
theorem dL_published_296 : decode cL_published 296 = .ok (.iload 14, 2) := by decide +kernel
theorem dL_published_298 : decode cL_published 298 = .ok (.imul, 1) := by decide +kernel
theorem dL_published_299 : decode cL_published 299 = .ok (.laload, 1) := by decide +kernel
theorem dL_published_300 : decode cL_published 300 = .ok (.ladd, 1) := by decide +kernel
theorem dL_published_301 : decode cL_published 301 = .ok (.lastore, 1) := by decide +kernel
theorem dL_published_302 : decode cL_published 302 = .ok (.iinc 14 1, 3) := by decide +kernel
theorem dL_published_305 : decode cL_published 305 = .ok (.goto (-239), 3) := by decide +kernel
theorem dL_published_308 : decode cL_published 308 = .ok (.aload 11, 2) := by decide +kernel
theorem dL_published_310 : decode cL_published 310 = .ok (.iconst 1, 1) := by decide +kernel
theorem dL_published_311 : decode cL_published 311 = .ok (.dup2, 1) := by decide +kernel
theorem dL_published_312 : decode cL_published 312 = .ok (.iaload, 1) := by decide +kernel
theorem dL_published_313 : decode cL_published 313 = .ok (.iconst 1, 1) := by decide +kernel
theorem dL_published_314 : decode cL_published 314 = .ok (.iadd, 1) := by decide +kernel
theorem dL_published_315 : decode cL_published 315 = .ok (.iastore, 1) := by decide +kernel
theorem dL_published_316 : decode cL_published 316 = .ok (.aload 11, 2) := by decide +kernel
theorem dL_published_318 : decode cL_published 318 = .ok (.iconst 2, 1) := by decide +kernel
theorem dL_published_319 : decode cL_published 319 = .ok (.iconst 0, 1) := by decide +kernel
theorem dL_published_320 : decode cL_published 320 = .ok (.iastore, 1) := by decide +kernel
theorem dL_published_321 : decode cL_published 321 = .ok (.aload_n 0, 1) := by decide +kernel
theorem dL_published_322 : decode cL_published 322 = .ok (.invokevirtual 99, 3) := by decide +kernel
theorem dL_published_325 : decode cL_published 325 = .ok (.iload 13, 2) := by decide +kernel
theorem dL_published_327 : decode cL_published 327 = .ok (.if_icmp .ne 7, 3) := by decide +kernel
theorem dL_published_330 : decode cL_published 330 = .ok (.iconst 1, 1) := by decide +kernel
theorem dL_published_331 : decode cL_published 331 = .ok (.goto 4, 3) := by decide +kernel
theorem dL_published_334 : decode cL_published 334 = .ok (.iconst 0, 1) := by decide +kernel
theorem dL_published_335 : decode cL_published 335 = .ok (.ireturn, 1) := by decide +kernel
set_option maxRecDepth 20000 in
theorem ggL_same_X6_count : GoodIn wsL_same wsX6_count := goodIn_ca (goodIn_r _ [9, 10, 11, 12, 13, 14, 15, 16, 17, 18, 19, 20, 363, 364, 365, 366, 367, 368, 369, 370, 371, 372, 373, 374, 375, 376, 377, 378, 379, 380, 381, 382, 383] (by decide +kernel) (by decide +kernel)) (goodIn_sub (fun _ h => List.mem_cons_of_mem _ (List.mem_append_right _ h)) (by decide +kernel))
set_option maxRecDepth 20000 in
theorem gL_same_X6_count : GoodIn wsL_same (wsV RL 103 RX6 yX6_count wsX6_count) := goodIn_app (goodIn_of _ (by decide +kernel)) ggL_same_X6_count
set_option maxRecDepth 20000 in
theorem ggL_same_L_low : GoodIn wsL_same wsL_low := goodIn_r _ [24, 25] (by decide +kernel) (by decide +kernel)
set_option maxRecDepth 20000 in
theorem gL_same_L_low : GoodIn wsL_same (va_wsS RL 107 yL_low wsL_low) := goodIn_app (goodIn_of _ (by decide +kernel)) ggL_same_L_low
set_option maxRecDepth 20000 in
theorem ggL_same_X6_index : GoodIn wsL_same wsX6_index := goodIn_ca (goodIn_r _ [29, 30, 31, 32, 8, 33, 10, 11, 34, 35, 36, 37, 13, 38, 39, 40, 41, 42, 43, 363, 364, 365, 366, 367, 368, 369, 370, 384, 385, 386, 387, 388, 389, 390, 391] (by decide +kernel) (by decide +kernel)) (goodIn_sub (fun _ h => List.mem_cons_of_mem _ (List.mem_append_right _ h)) (by decide +kernel))
set_option maxRecDepth 20000 in
theorem gL_same_X6_index : GoodIn wsL_same (wsV RL 111 RX6 yX6_index wsX6_index) := goodIn_app (goodIn_of _ (by decide +kernel)) ggL_same_X6_index
set_option maxRecDepth 20000 in
theorem ggL_same_L_index : GoodIn wsL_same wsL_index := goodIn_r _ [46, 2, 47, 48, 23, 49, 50, 51, 52, 53, 54, 55, 56, 57, 58, 59, 60, 61, 62, 63, 64, 65, 66, 67, 68, 69, 70] rfl (by decide +kernel)
set_option maxRecDepth 20000 in
theorem gL_same_L_index : GoodIn wsL_same (va_wsS RL 75 yL_index wsL_index) := goodIn_app (goodIn_of _ (by decide +kernel)) ggL_same_L_index
set_option maxRecDepth 20000 in
theorem ggL_same_X6_indexAnew : GoodIn wsL_same wsX6_indexAnew := goodIn_ca (goodIn_r _ [74, 75, 31, 32, 8, 33, 10, 11, 34, 35, 36, 37, 13, 76, 77, 78, 41, 79, 80, 81, 82, 83, 84, 85, 86, 43, 87, 88, 16, 17, 18, 19, 20, 89, 90, 91, 92, 93, 94, 95, 96, 97, 98, 99, 100, 101, 102, 103, 104, 105, 106, 107, 108, 109, 110, 111, 112, 113, 114, 115, 116, 117, 118, 119, 120, 121, 122, 123, 124, 125, 126, 127, 128, 129, 130, 131, 132, 133, 134, 135, 136, 137, 138, 139, 140, 141, 142, 143, 144, 145, 146, 147, 148, 149, 150, 151, 152, 153, 154, 155, 156, 157, 158, 159, 160, 161, 162, 163, 164, 165, 166, 167, 168, 169, 170, 171, 172, 173, 174, 175, 176, 177, 178, 179, 180, 181, 182, 39, 40, 42, 183, 184, 185, 186, 187, 188, 189, 190, 191, 192, 193, 194, 195, 196, 197, 38, 363, 364, 365, 366, 367, 368, 369, 370, 384, 385, 386, 387, 388, 389, 390, 391, 371, 372, 373, 374, 375, 376, 377, 378, 379, 380, 381, 382, 383, 392, 393, 394, 395, 396, 397, 398, 399, 400, 401, 402] (by decide +kernel) (by decide +kernel)) (goodIn_sub (fun _ h => List.mem_cons_of_mem _ (List.mem_append_right _ h)) (by decide +kernel))
set_option maxRecDepth 20000 in
theorem gL_same_X6_indexAnew : GoodIn wsL_same (wsV RL 114 RX6 yX6_indexAnew wsX6_indexAnew) := goodIn_app (goodIn_of _ (by decide +kernel)) ggL_same_X6_indexAnew
set_option maxRecDepth 20000 in
theorem ggL_same_X6_corrected : GoodIn wsL_same wsX6_corrected := goodIn_ca (goodIn_r _ [201, 75, 31, 32, 8, 33, 10, 11, 34, 35, 36, 37, 13, 76, 77, 78, 41, 79, 80, 81, 82, 83, 84, 85, 86, 43, 87, 88, 16, 17, 18, 19, 20, 89, 90, 91, 92, 93, 94, 95, 96, 97, 98, 99, 100, 101, 102, 103, 104, 105, 106, 107, 108, 109, 110, 111, 112, 113, 114, 115, 116, 117, 118, 119, 120, 121, 122, 123, 124, 125, 126, 127, 128, 129, 130, 131, 132, 133, 134, 135, 136, 137, 138, 139, 140, 141, 142, 143, 144, 145, 146, 147, 148, 149, 150, 151, 152, 153, 154, 155, 156, 157, 158, 159, 160, 161, 162, 163, 164, 165, 166, 167, 168, 169, 170, 171, 172, 173, 174, 175, 176, 177, 178, 179, 180, 181, 182, 39, 40, 42, 183, 184, 185, 186, 187, 188, 189, 190, 191, 192, 193, 194, 195, 196, 197, 38, 363, 364, 365, 366, 367, 368, 369, 370, 384, 385, 386, 387, 388, 389, 390, 391, 371, 372, 373, 374, 375, 376, 377, 378, 379, 380, 381, 382, 383, 392, 393, 394, 395, 396, 397, 398, 399, 400, 401, 402] (by decide +kernel) (by decide +kernel)) (goodIn_sub (fun _ h => List.mem_cons_of_mem _ (List.mem_append_right _ h)) (by decide +kernel))
set_option maxRecDepth 20000 in
theorem gL_same_X6_corrected : GoodIn wsL_same (wsV RL 117 RX6 yX6_corrected wsX6_corrected) := goodIn_app (goodIn_of _ (by decide +kernel)) ggL_same_X6_corrected
set_option maxRecDepth 20000 in
theorem ggL_same_X6_published : GoodIn wsL_same wsX6_published := goodIn_ca (goodIn_r _ [205, 206, 34, 35, 36, 8, 37, 10, 11, 13, 363, 364, 365, 366, 367, 368, 369, 370] (by decide +kernel) (by decide +kernel)) (goodIn_sub (fun _ h => List.mem_cons_of_mem _ (List.mem_append_right _ h)) (by decide +kernel))
set_option maxRecDepth 20000 in
theorem gL_same_X6_published : GoodIn wsL_same (wsV RL 120 RX6 yX6_published wsX6_published) := goodIn_app (goodIn_of _ (by decide +kernel)) ggL_same_X6_published
set_option maxRecDepth 20000 in
theorem ggL_same_L_number : GoodIn wsL_same wsL_number := goodIn_r _ [209, 210, 4, 211, 25, 44, 45, 23, 46, 2, 47, 48, 49, 50, 51, 52, 53, 54, 55, 56, 57, 58, 59, 60, 61, 62, 63, 64, 65, 66, 67, 68, 69, 70] rfl (by decide +kernel)
set_option maxRecDepth 20000 in
theorem gL_same_L_number : GoodIn wsL_same (va_wsS RL 91 yL_number wsL_number) := goodIn_app (goodIn_of _ (by decide +kernel)) ggL_same_L_number
set_option maxRecDepth 20000 in
theorem ggL_same_X6_share : GoodIn wsL_same wsX6_share := goodIn_ca (goodIn_r _ [215, 216, 31, 32, 8, 33, 10, 11, 217, 218, 219, 34, 35, 36, 37, 13, 220, 189, 190, 191, 192, 193, 363, 364, 365, 366, 367, 368, 369, 370, 400, 401, 402] (by decide +kernel) (by decide +kernel)) (goodIn_sub (fun _ h => List.mem_cons_of_mem _ (List.mem_append_right _ h)) (by decide +kernel))
set_option maxRecDepth 20000 in
theorem gL_same_X6_share : GoodIn wsL_same (wsV RL 123 RX6 yX6_share wsX6_share) := goodIn_app (goodIn_of _ (by decide +kernel)) ggL_same_X6_share
set_option maxRecDepth 20000 in
theorem ggL_same_L_share : GoodIn wsL_same wsL_share := goodIn_r _ [49, 50] (by decide +kernel) (by decide +kernel)
set_option maxRecDepth 20000 in
theorem gL_same_L_share : GoodIn wsL_same (va_wsS RL 67 yL_share wsL_share) := goodIn_app (goodIn_of _ (by decide +kernel)) ggL_same_L_share
set_option maxRecDepth 20000 in
theorem ggL_same_X6_ofGroup : GoodIn wsL_same wsX6_ofGroup := goodIn_ca (goodIn_r _ [224, 30, 217, 218, 8, 219, 10, 11, 34, 35, 36, 37, 13, 225, 195, 196, 41, 197, 86, 363, 364, 365, 366, 367, 368, 369, 370, 384, 385, 386, 387, 388, 389, 390, 391] (by decide +kernel) (by decide +kernel)) (goodIn_sub (fun _ h => List.mem_cons_of_mem _ (List.mem_append_right _ h)) (by decide +kernel))
set_option maxRecDepth 20000 in
theorem gL_same_X6_ofGroup : GoodIn wsL_same (wsV RL 126 RX6 yX6_ofGroup wsX6_ofGroup) := goodIn_app (goodIn_of _ (by decide +kernel)) ggL_same_X6_ofGroup
set_option maxRecDepth 20000 in
theorem ggL_same_L_group : GoodIn wsL_same wsL_group := goodIn_r _ [53, 54, 55, 23, 56, 57, 58, 59, 60, 61, 62, 63, 64, 65, 66, 67, 68, 69, 70] rfl (by decide +kernel)
set_option maxRecDepth 20000 in
theorem gL_same_L_group : GoodIn wsL_same (va_wsS RL 71 yL_group wsL_group) := goodIn_app (goodIn_of _ (by decide +kernel)) ggL_same_L_group
set_option maxRecDepth 20000 in
theorem ggL_same_X6_direct : GoodIn wsL_same wsX6_direct := goodIn_ca (goodIn_r _ [229, 30, 34, 35, 36, 8, 37, 10, 11, 13, 230, 231, 232, 41, 233, 187, 87, 194, 195, 196, 197, 86, 188, 189, 190, 191, 192, 193, 363, 364, 365, 366, 367, 368, 369, 370, 384, 385, 386, 387, 388, 389, 390, 391, 400, 401, 402] (by decide +kernel) (by decide +kernel)) (goodIn_sub (fun _ h => List.mem_cons_of_mem _ (List.mem_append_right _ h)) (by decide +kernel))
set_option maxRecDepth 20000 in
theorem gL_same_X6_direct : GoodIn wsL_same (wsV RL 131 RX6 yX6_direct wsX6_direct) := goodIn_app (goodIn_of _ (by decide +kernel)) ggL_same_X6_direct

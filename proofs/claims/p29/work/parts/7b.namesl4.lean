set_option maxRecDepth 20000 in
theorem ggL_same_X6_core : GoodIn wsL_same wsX6_core := goodIn_ca (goodIn_r _ [237, 30, 34, 35, 36, 8, 37, 10, 11, 13, 238, 239, 240, 41, 241, 242, 194, 195, 196, 197, 86, 363, 364, 365, 366, 367, 368, 369, 370, 384, 385, 386, 387, 388, 389, 390, 391] (by decide +kernel) (by decide +kernel)) (goodIn_sub (fun _ h => List.mem_cons_of_mem _ (List.mem_append_right _ h)) (by decide +kernel))
set_option maxRecDepth 20000 in
theorem gL_same_X6_core : GoodIn wsL_same (wsV RL 135 RX6 yX6_core wsX6_core) := goodIn_app (goodIn_of _ (by decide +kernel)) ggL_same_X6_core
set_option maxRecDepth 20000 in
theorem ggL_same_L_goes : GoodIn wsL_same wsL_goes := goodIn_r _ [56, 57, 58, 23, 59, 60, 61, 62, 63, 64, 65, 66, 67, 68, 69, 70] rfl (by decide +kernel)
set_option maxRecDepth 20000 in
theorem gL_same_L_goes : GoodIn wsL_same (va_wsS RL 59 yL_goes wsL_goes) := goodIn_app (goodIn_of _ (by decide +kernel)) ggL_same_L_goes
set_option maxRecDepth 20000 in
theorem ggL_same_X6_relative : GoodIn wsL_same wsX6_relative := goodIn_ca (goodIn_r _ [246, 30, 247, 248, 249, 8, 250, 10, 11, 12, 15, 16, 17, 18, 19, 20, 34, 35, 36, 37, 13, 251, 179, 180, 41, 181, 93, 363, 364, 365, 366, 367, 368, 369, 370, 371, 372, 373, 374, 375, 376, 377, 378, 379, 380, 381, 382, 383, 384, 385, 386, 387, 388, 389, 390, 391] (by decide +kernel) (by decide +kernel)) (goodIn_sub (fun _ h => List.mem_cons_of_mem _ (List.mem_append_right _ h)) (by decide +kernel))
set_option maxRecDepth 20000 in
theorem gL_same_X6_relative : GoodIn wsL_same (wsV RL 140 RX6 yX6_relative wsX6_relative) := goodIn_app (goodIn_of _ (by decide +kernel)) ggL_same_X6_relative
set_option maxRecDepth 20000 in
theorem ggL_same_X6_bounce : GoodIn wsL_same wsX6_bounce := goodIn_ca (goodIn_r _ [255, 30, 247, 248, 249, 8, 250, 10, 11, 12, 15, 16, 17, 18, 19, 20, 34, 35, 36, 37, 13, 251, 179, 180, 41, 181, 93, 256, 257, 258, 259, 95, 96, 97, 98, 99, 85, 100, 101, 102, 103, 104, 105, 106, 107, 108, 109, 110, 111, 112, 113, 114, 115, 116, 80, 117, 118, 119, 120, 121, 122, 123, 124, 125, 126, 127, 128, 94, 129, 130, 131, 132, 133, 134, 135, 136, 137, 138, 139, 140, 141, 142, 143, 144, 145, 146, 147, 148, 149, 150, 151, 152, 153, 154, 155, 156, 157, 158, 159, 160, 161, 162, 163, 164, 165, 166, 167, 168, 169, 363, 364, 365, 366, 367, 368, 369, 370, 371, 372, 373, 374, 375, 376, 377, 378, 379, 380, 381, 382, 383, 384, 385, 386, 387, 388, 389, 390, 391, 392, 393, 394, 395, 396, 397, 398, 399] (by decide +kernel) (by decide +kernel)) (goodIn_sub (fun _ h => List.mem_cons_of_mem _ (List.mem_append_right _ h)) (by decide +kernel))
set_option maxRecDepth 20000 in
theorem gL_same_X6_bounce : GoodIn wsL_same (wsV RL 143 RX6 yX6_bounce wsX6_bounce) := goodIn_app (goodIn_of _ (by decide +kernel)) ggL_same_X6_bounce
set_option maxRecDepth 20000 in
theorem ggL_same_L_outlet : GoodIn wsL_same wsL_outlet := goodIn_r _ [262] (by decide +kernel) (by decide +kernel)
set_option maxRecDepth 20000 in
theorem gL_same_L_outlet : GoodIn wsL_same (va_wsS RL 146 yL_outlet wsL_outlet) := goodIn_app (goodIn_of _ (by decide +kernel)) ggL_same_L_outlet
set_option maxRecDepth 20000 in
theorem ggL_same_X6_price : GoodIn wsL_same wsX6_price := goodIn_ca (goodIn_r _ [266, 30, 247, 248, 249, 8, 250, 10, 11, 12, 15, 16, 17, 18, 19, 20, 267, 268, 269, 34, 35, 36, 37, 13, 270, 101, 102, 363, 364, 365, 366, 367, 368, 369, 370, 384, 385, 386, 387, 388, 389, 390, 391, 371, 372, 373, 374, 375, 376, 377, 378, 379, 380, 381, 382, 383] (by decide +kernel) (by decide +kernel)) (goodIn_sub (fun _ h => List.mem_cons_of_mem _ (List.mem_append_right _ h)) (by decide +kernel))
set_option maxRecDepth 20000 in
theorem gL_same_X6_price : GoodIn wsL_same (wsV RL 149 RX6 yX6_price wsX6_price) := goodIn_app (goodIn_of _ (by decide +kernel)) ggL_same_X6_price
set_option maxRecDepth 20000 in
theorem ggL_same_X6_isMatched : GoodIn wsL_same wsX6_isMatched := goodIn_ca (goodIn_r _ [274, 30, 247, 248, 249, 8, 250, 10, 11, 12, 15, 16, 17, 18, 19, 20, 267, 268, 269, 34, 35, 36, 37, 13, 270, 101, 102, 275, 276, 277, 41, 278, 113, 114, 115, 116, 85, 80, 117, 118, 119, 120, 121, 122, 123, 124, 125, 126, 127, 128, 94, 129, 130, 131, 132, 133, 134, 135, 136, 137, 138, 139, 140, 141, 142, 143, 144, 363, 364, 365, 366, 367, 368, 369, 370, 371, 372, 373, 374, 375, 376, 377, 378, 379, 380, 381, 382, 383, 384, 385, 386, 387, 388, 389, 390, 391] (by decide +kernel) (by decide +kernel)) (goodIn_sub (fun _ h => List.mem_cons_of_mem _ (List.mem_append_right _ h)) (by decide +kernel))
set_option maxRecDepth 20000 in
theorem gL_same_X6_isMatched : GoodIn wsL_same (wsV RL 152 RX6 yX6_isMatched wsX6_isMatched) := goodIn_app (goodIn_of _ (by decide +kernel)) ggL_same_X6_isMatched
set_option maxRecDepth 20000 in
theorem ggL_same_X6_doubts : GoodIn wsL_same wsX6_doubts := goodIn_ca (goodIn_r _ [282, 30, 34, 35, 36, 8, 37, 10, 11, 13, 283, 284, 285, 41, 286, 85, 287, 288, 289, 120, 290, 124, 125, 126, 127, 128, 94, 129, 130, 131, 132, 133, 134, 135, 136, 137, 138, 291, 276, 277, 278, 113, 114, 115, 116, 80, 117, 118, 119, 121, 122, 123, 139, 140, 141, 142, 143, 144, 363, 364, 365, 366, 367, 368, 369, 370, 384, 385, 386, 387, 388, 389, 390, 391, 371, 372, 373, 374, 375, 376, 377, 378, 379, 380] (by decide +kernel) (by decide +kernel)) (goodIn_sub (fun _ h => List.mem_cons_of_mem _ (List.mem_append_right _ h)) (by decide +kernel))
set_option maxRecDepth 20000 in
theorem gL_same_X6_doubts : GoodIn wsL_same (wsV RL 156 RX6 yX6_doubts wsX6_doubts) := goodIn_app (goodIn_of _ (by decide +kernel)) ggL_same_X6_doubts
set_option maxRecDepth 20000 in
theorem ggL_same_X6_ofContract : GoodIn wsL_same wsX6_ofContract := goodIn_ca (goodIn_r _ [295, 10, 11, 14, 296, 297, 298, 299, 8, 300, 15, 16, 17, 18, 19, 20, 301, 150, 151, 152, 153, 154, 155, 156, 157, 158, 159, 160, 161, 162, 163, 164, 165, 363, 364, 365, 366, 367, 368, 369, 370, 403, 404, 405, 406, 407, 408, 409, 410, 411, 381, 382, 383] (by decide +kernel) (by decide +kernel)) (goodIn_sub (fun _ h => List.mem_cons_of_mem _ (List.mem_append_right _ h)) (by decide +kernel))
set_option maxRecDepth 20000 in
theorem gL_same_X6_ofContract : GoodIn wsL_same (wsV RL 159 RX6 yX6_ofContract wsX6_ofContract) := goodIn_app (goodIn_of _ (by decide +kernel)) ggL_same_X6_ofContract
set_option maxRecDepth 20000 in
theorem ggL_same_X6_owed : GoodIn wsL_same wsX6_owed := goodIn_ca (goodIn_r _ [305, 75, 13, 306, 14, 296, 297, 298, 299, 8, 300, 10, 11, 15, 16, 17, 18, 19, 20, 76, 77, 78, 41, 79, 80, 81, 82, 83, 84, 85, 86, 43, 87, 88, 89, 90, 91, 92, 93, 94, 95, 96, 97, 98, 99, 100, 101, 102, 103, 104, 105, 106, 107, 108, 109, 110, 111, 112, 113, 114, 115, 116, 117, 118, 119, 120, 121, 122, 123, 124, 125, 126, 127, 128, 129, 130, 131, 132, 133, 134, 135, 136, 137, 138, 139, 140, 141, 142, 143, 144, 145, 146, 147, 148, 149, 150, 151, 152, 153, 154, 155, 156, 157, 158, 159, 160, 161, 162, 163, 164, 165, 166, 167, 168, 169, 170, 171, 172, 173, 174, 175, 176, 177, 178, 179, 180, 181, 182, 39, 40, 42, 183, 184, 185, 186, 187, 188, 189, 190, 191, 192, 193, 194, 195, 196, 197, 38, 307, 308, 309, 310, 311, 312, 313, 301, 314, 315, 316, 317, 318, 319, 320, 321, 322, 323, 324, 325, 326, 327, 328, 329, 330, 331, 332, 333, 334, 335, 336, 337, 338, 339, 340, 341, 342, 343, 344, 345, 346, 347, 348, 349, 350, 351, 352, 353, 363, 364, 365, 366, 367, 368, 369, 370, 403, 404, 405, 406, 407, 408, 409, 410, 411, 381, 382, 383, 384, 385, 386, 387, 388, 389, 390, 391, 371, 372, 373, 374, 375, 376, 377, 378, 379, 380, 392, 393, 394, 395, 396, 397, 398, 399, 400, 401, 402] (by decide +kernel) (by decide +kernel)) (goodIn_sub (fun _ h => List.mem_cons_of_mem _ (List.mem_append_right _ h)) (by decide +kernel))
set_option maxRecDepth 20000 in
theorem gL_same_X6_owed : GoodIn wsL_same (wsV RL 163 RX6 yX6_owed wsX6_owed) := goodIn_app (goodIn_of _ (by decide +kernel)) ggL_same_X6_owed
set_option maxRecDepth 20000 in
theorem ggL_same_L_due : GoodIn wsL_same wsL_due := goodIn_r _ [356, 207, 208, 23, 209, 210, 4, 211, 25, 44, 45, 46, 2, 47, 48, 49, 50, 51, 52, 53, 54, 55, 56, 57, 58, 59, 60, 61, 62, 63, 64, 65, 66, 67, 68, 69, 70, 357, 358, 359, 360, 361, 362] rfl (by decide +kernel)
set_option maxRecDepth 20000 in
theorem gL_same_L_due : GoodIn wsL_same (va_wsS RL 167 yL_due wsL_due) := goodIn_app (goodIn_of _ (by decide +kernel)) ggL_same_L_due
theorem dL_same_0 : decode cL_same 0 = .ok (.aload_n 0, 1) := by decide +kernel
theorem dL_same_1 : decode cL_same 1 = .ok (.iconst 0, 1) := by decide +kernel
theorem dL_same_2 : decode cL_same 2 = .ok (.invokevirtual 103, 3) := by decide +kernel
theorem dL_same_5 : decode cL_same 5 = .ok (.aload 11, 2) := by decide +kernel
theorem dL_same_7 : decode cL_same 7 = .ok (.iconst 0, 1) := by decide +kernel
theorem dL_same_8 : decode cL_same 8 = .ok (.iaload, 1) := by decide +kernel
theorem dL_same_9 : decode cL_same 9 = .ok (.if_icmp .ne 55, 3) := by decide +kernel
theorem dL_same_12 : decode cL_same 12 = .ok (.aload_n 0, 1) := by decide +kernel
theorem dL_same_13 : decode cL_same 13 = .ok (.iconst 1, 1) := by decide +kernel
theorem dL_same_14 : decode cL_same 14 = .ok (.invokevirtual 103, 3) := by decide +kernel
theorem dL_same_17 : decode cL_same 17 = .ok (.aload 11, 2) := by decide +kernel
theorem dL_same_19 : decode cL_same 19 = .ok (.iconst 1, 1) := by decide +kernel
theorem dL_same_20 : decode cL_same 20 = .ok (.iaload, 1) := by decide +kernel
theorem dL_same_21 : decode cL_same 21 = .ok (.if_icmp .ne 43, 3) := by decide +kernel
theorem dL_same_24 : decode cL_same 24 = .ok (.aload_n 0, 1) := by decide +kernel
theorem dL_same_25 : decode cL_same 25 = .ok (.iconst 2, 1) := by decide +kernel
theorem dL_same_26 : decode cL_same 26 = .ok (.invokevirtual 103, 3) := by decide +kernel
theorem dL_same_29 : decode cL_same 29 = .ok (.aload 11, 2) := by decide +kernel
theorem dL_same_31 : decode cL_same 31 = .ok (.iconst 2, 1) := by decide +kernel
theorem dL_same_32 : decode cL_same 32 = .ok (.iaload, 1) := by decide +kernel
theorem dL_same_33 : decode cL_same 33 = .ok (.if_icmp .ne 31, 3) := by decide +kernel
theorem dL_same_36 : decode cL_same 36 = .ok (.aload_n 0, 1) := by decide +kernel
theorem dL_same_37 : decode cL_same 37 = .ok (.iconst 3, 1) := by decide +kernel
theorem dL_same_38 : decode cL_same 38 = .ok (.invokevirtual 103, 3) := by decide +kernel
theorem dL_same_41 : decode cL_same 41 = .ok (.aload 11, 2) := by decide +kernel
theorem dL_same_43 : decode cL_same 43 = .ok (.iconst 3, 1) := by decide +kernel
theorem dL_same_44 : decode cL_same 44 = .ok (.iaload, 1) := by decide +kernel
theorem dL_same_45 : decode cL_same 45 = .ok (.if_icmp .ne 19, 3) := by decide +kernel
theorem dL_same_48 : decode cL_same 48 = .ok (.aload_n 0, 1) := by decide +kernel
theorem dL_same_49 : decode cL_same 49 = .ok (.iconst 4, 1) := by decide +kernel
theorem dL_same_50 : decode cL_same 50 = .ok (.invokevirtual 103, 3) := by decide +kernel
theorem dL_same_53 : decode cL_same 53 = .ok (.aload 11, 2) := by decide +kernel
theorem dL_same_55 : decode cL_same 55 = .ok (.iconst 4, 1) := by decide +kernel
theorem dL_same_56 : decode cL_same 56 = .ok (.iaload, 1) := by decide +kernel
theorem dL_same_57 : decode cL_same 57 = .ok (.if_icmp .ne 7, 3) := by decide +kernel
theorem dL_same_60 : decode cL_same 60 = .ok (.iconst 1, 1) := by decide +kernel
theorem dL_same_61 : decode cL_same 61 = .ok (.goto 4, 3) := by decide +kernel
theorem dL_same_64 : decode cL_same 64 = .ok (.iconst 0, 1) := by decide +kernel
theorem dL_same_65 : decode cL_same 65 = .ok (.istore 12, 2) := by decide +kernel
theorem dL_same_67 : decode cL_same 67 = .ok (.aload 11, 2) := by decide +kernel
theorem dL_same_69 : decode cL_same 69 = .ok (.iconst 1, 1) := by decide +kernel
theorem dL_same_70 : decode cL_same 70 = .ok (.iaload, 1) := by decide +kernel
theorem dL_same_71 : decode cL_same 71 = .ok (.ifCond .eq 8, 3) := by decide +kernel
theorem dL_same_74 : decode cL_same 74 = .ok (.iload 12, 2) := by decide +kernel
theorem dL_same_76 : decode cL_same 76 = .ok (.ifCond .ne 6, 3) := by decide +kernel
theorem dL_same_79 : decode cL_same 79 = .ok (.iload 12, 2) := by decide +kernel
theorem dL_same_81 : decode cL_same 81 = .ok (.ireturn, 1) := by decide +kernel
theorem dL_same_82 : decode cL_same 82 = .ok (.iload_n 1, 1) := by decide +kernel
theorem dL_same_83 : decode cL_same 83 = .ok (.aload 11, 2) := by decide +kernel
theorem dL_same_85 : decode cL_same 85 = .ok (.iconst 1, 1) := by decide +kernel
theorem dL_same_86 : decode cL_same 86 = .ok (.iaload, 1) := by decide +kernel
theorem dL_same_87 : decode cL_same 87 = .ok (.invokestatic 107, 3) := by decide +kernel
theorem dL_same_90 : decode cL_same 90 = .ok (.istore 13, 2) := by decide +kernel
theorem dL_same_92 : decode cL_same 92 = .ok (.iload_n 1, 1) := by decide +kernel
theorem dL_same_93 : decode cL_same 93 = .ok (.iconst 2, 1) := by decide +kernel
theorem dL_same_94 : decode cL_same 94 = .ok (.ishr, 1) := by decide +kernel
theorem dL_same_95 : decode cL_same 95 = .ok (.iconst 5, 1) := by decide +kernel
theorem dL_same_96 : decode cL_same 96 = .ok (.invokestatic 107, 3) := by decide +kernel
theorem dL_same_99 : decode cL_same 99 = .ok (.istore 14, 2) := by decide +kernel
theorem dL_same_101 : decode cL_same 101 = .ok (.iload_n 1, 1) := by decide +kernel
theorem dL_same_102 : decode cL_same 102 = .ok (.iconst 3, 1) := by decide +kernel
theorem dL_same_103 : decode cL_same 103 = .ok (.ishr, 1) := by decide +kernel
theorem dL_same_104 : decode cL_same 104 = .ok (.iconst 4, 1) := by decide +kernel
theorem dL_same_105 : decode cL_same 105 = .ok (.invokestatic 107, 3) := by decide +kernel
theorem dL_same_108 : decode cL_same 108 = .ok (.istore 15, 2) := by decide +kernel
theorem dL_same_110 : decode cL_same 110 = .ok (.aload_n 0, 1) := by decide +kernel
theorem dL_same_111 : decode cL_same 111 = .ok (.iload 14, 2) := by decide +kernel
theorem dL_same_113 : decode cL_same 113 = .ok (.iload 13, 2) := by decide +kernel
theorem dL_same_115 : decode cL_same 115 = .ok (.invokevirtual 111, 3) := by decide +kernel
theorem dL_same_118 : decode cL_same 118 = .ok (.iload 14, 2) := by decide +kernel
theorem dL_same_120 : decode cL_same 120 = .ok (.iload 13, 2) := by decide +kernel
theorem dL_same_122 : decode cL_same 122 = .ok (.iconst 0, 1) := by decide +kernel
theorem dL_same_123 : decode cL_same 123 = .ok (.aload_n 2, 1) := by decide +kernel
theorem dL_same_124 : decode cL_same 124 = .ok (.aload_n 3, 1) := by decide +kernel
theorem dL_same_125 : decode cL_same 125 = .ok (.aload 4, 2) := by decide +kernel
theorem dL_same_127 : decode cL_same 127 = .ok (.aload 5, 2) := by decide +kernel
theorem dL_same_129 : decode cL_same 129 = .ok (.aload 6, 2) := by decide +kernel
theorem dL_same_131 : decode cL_same 131 = .ok (.aload 7, 2) := by decide +kernel
theorem dL_same_133 : decode cL_same 133 = .ok (.aload 8, 2) := by decide +kernel
theorem dL_same_135 : decode cL_same 135 = .ok (.aload 9, 2) := by decide +kernel
theorem dL_same_137 : decode cL_same 137 = .ok (.aload 11, 2) := by decide +kernel
theorem dL_same_139 : decode cL_same 139 = .ok (.invokestatic 75, 3) := by decide +kernel
theorem dL_same_142 : decode cL_same 142 = .ok (.dcmp .l, 1) := by decide +kernel
theorem dL_same_143 : decode cL_same 143 = .ok (.ifCond .ne 153, 3) := by decide +kernel
theorem dL_same_146 : decode cL_same 146 = .ok (.aload_n 0, 1) := by decide +kernel
theorem dL_same_147 : decode cL_same 147 = .ok (.iload 14, 2) := by decide +kernel
theorem dL_same_149 : decode cL_same 149 = .ok (.iload 13, 2) := by decide +kernel
theorem dL_same_151 : decode cL_same 151 = .ok (.invokevirtual 114, 3) := by decide +kernel
theorem dL_same_154 : decode cL_same 154 = .ok (.aload_n 0, 1) := by decide +kernel
theorem dL_same_155 : decode cL_same 155 = .ok (.iload 14, 2) := by decide +kernel
theorem dL_same_157 : decode cL_same 157 = .ok (.iload 13, 2) := by decide +kernel
theorem dL_same_159 : decode cL_same 159 = .ok (.invokevirtual 111, 3) := by decide +kernel
theorem dL_same_162 : decode cL_same 162 = .ok (.dcmp .l, 1) := by decide +kernel
theorem dL_same_163 : decode cL_same 163 = .ok (.ifCond .ne 133, 3) := by decide +kernel
theorem dL_same_166 : decode cL_same 166 = .ok (.aload_n 0, 1) := by decide +kernel
theorem dL_same_167 : decode cL_same 167 = .ok (.iload 14, 2) := by decide +kernel
theorem dL_same_169 : decode cL_same 169 = .ok (.iload 13, 2) := by decide +kernel
theorem dL_same_171 : decode cL_same 171 = .ok (.invokevirtual 117, 3) := by decide +kernel
theorem dL_same_174 : decode cL_same 174 = .ok (.iload 14, 2) := by decide +kernel
theorem dL_same_176 : decode cL_same 176 = .ok (.iload 13, 2) := by decide +kernel
theorem dL_same_178 : decode cL_same 178 = .ok (.iconst 1, 1) := by decide +kernel
theorem dL_same_179 : decode cL_same 179 = .ok (.aload_n 2, 1) := by decide +kernel
theorem dL_same_180 : decode cL_same 180 = .ok (.aload_n 3, 1) := by decide +kernel
theorem dL_same_181 : decode cL_same 181 = .ok (.aload 4, 2) := by decide +kernel
theorem dL_same_183 : decode cL_same 183 = .ok (.aload 5, 2) := by decide +kernel
theorem dL_same_185 : decode cL_same 185 = .ok (.aload 6, 2) := by decide +kernel
theorem dL_same_187 : decode cL_same 187 = .ok (.aload 7, 2) := by decide +kernel
theorem dL_same_189 : decode cL_same 189 = .ok (.aload 8, 2) := by decide +kernel
theorem dL_same_191 : decode cL_same 191 = .ok (.aload 9, 2) := by decide +kernel
theorem dL_same_193 : decode cL_same 193 = .ok (.aload 11, 2) := by decide +kernel
theorem dL_same_195 : decode cL_same 195 = .ok (.invokestatic 75, 3) := by decide +kernel
theorem dL_same_198 : decode cL_same 198 = .ok (.dcmp .l, 1) := by decide +kernel
theorem dL_same_199 : decode cL_same 199 = .ok (.ifCond .ne 97, 3) := by decide +kernel
theorem dL_same_202 : decode cL_same 202 = .ok (.aload_n 0, 1) := by decide +kernel
theorem dL_same_203 : decode cL_same 203 = .ok (.iload 13, 2) := by decide +kernel
theorem dL_same_205 : decode cL_same 205 = .ok (.invokevirtual 120, 3) := by decide +kernel
theorem dL_same_208 : decode cL_same 208 = .ok (.iload 13, 2) := by decide +kernel
theorem dL_same_210 : decode cL_same 210 = .ok (.iconst 0, 1) := by decide +kernel
theorem dL_same_211 : decode cL_same 211 = .ok (.aload_n 2, 1) := by decide +kernel
theorem dL_same_212 : decode cL_same 212 = .ok (.aload_n 3, 1) := by decide +kernel
theorem dL_same_213 : decode cL_same 213 = .ok (.aload 4, 2) := by decide +kernel
theorem dL_same_215 : decode cL_same 215 = .ok (.aload 5, 2) := by decide +kernel
theorem dL_same_217 : decode cL_same 217 = .ok (.aload 6, 2) := by decide +kernel
theorem dL_same_219 : decode cL_same 219 = .ok (.aload 7, 2) := by decide +kernel
theorem dL_same_221 : decode cL_same 221 = .ok (.aload 8, 2) := by decide +kernel
theorem dL_same_223 : decode cL_same 223 = .ok (.aload 9, 2) := by decide +kernel
theorem dL_same_225 : decode cL_same 225 = .ok (.aload 11, 2) := by decide +kernel
theorem dL_same_227 : decode cL_same 227 = .ok (.invokestatic 91, 3) := by decide +kernel
theorem dL_same_230 : decode cL_same 230 = .ok (.if_icmp .ne 66, 3) := by decide +kernel
theorem dL_same_233 : decode cL_same 233 = .ok (.aload_n 0, 1) := by decide +kernel
theorem dL_same_234 : decode cL_same 234 = .ok (.iload 14, 2) := by decide +kernel
theorem dL_same_236 : decode cL_same 236 = .ok (.iload 15, 2) := by decide +kernel
theorem dL_same_238 : decode cL_same 238 = .ok (.iload 13, 2) := by decide +kernel
theorem dL_same_240 : decode cL_same 240 = .ok (.invokevirtual 123, 3) := by decide +kernel
theorem dL_same_243 : decode cL_same 243 = .ok (.iload 14, 2) := by decide +kernel
theorem dL_same_245 : decode cL_same 245 = .ok (.iload 15, 2) := by decide +kernel
theorem dL_same_247 : decode cL_same 247 = .ok (.iload 13, 2) := by decide +kernel
theorem dL_same_249 : decode cL_same 249 = .ok (.aload 9, 2) := by decide +kernel
theorem dL_same_251 : decode cL_same 251 = .ok (.invokestatic 67, 3) := by decide +kernel
theorem dL_same_254 : decode cL_same 254 = .ok (.dcmp .l, 1) := by decide +kernel
theorem dL_same_255 : decode cL_same 255 = .ok (.ifCond .ne 41, 3) := by decide +kernel
theorem dL_same_258 : decode cL_same 258 = .ok (.aload_n 0, 1) := by decide +kernel
theorem dL_same_259 : decode cL_same 259 = .ok (.iload 15, 2) := by decide +kernel
theorem dL_same_261 : decode cL_same 261 = .ok (.iload 13, 2) := by decide +kernel
theorem dL_same_263 : decode cL_same 263 = .ok (.invokevirtual 126, 3) := by decide +kernel
theorem dL_same_266 : decode cL_same 266 = .ok (.iload 15, 2) := by decide +kernel
theorem dL_same_268 : decode cL_same 268 = .ok (.iload 13, 2) := by decide +kernel
theorem dL_same_270 : decode cL_same 270 = .ok (.iconst 0, 1) := by decide +kernel
theorem dL_same_271 : decode cL_same 271 = .ok (.aload_n 2, 1) := by decide +kernel
theorem dL_same_272 : decode cL_same 272 = .ok (.aload_n 3, 1) := by decide +kernel
theorem dL_same_273 : decode cL_same 273 = .ok (.aload 4, 2) := by decide +kernel
theorem dL_same_275 : decode cL_same 275 = .ok (.aload 5, 2) := by decide +kernel
theorem dL_same_277 : decode cL_same 277 = .ok (.aload 6, 2) := by decide +kernel
theorem dL_same_279 : decode cL_same 279 = .ok (.aload 7, 2) := by decide +kernel
theorem dL_same_281 : decode cL_same 281 = .ok (.aload 8, 2) := by decide +kernel
theorem dL_same_283 : decode cL_same 283 = .ok (.aload 11, 2) := by decide +kernel
theorem dL_same_285 : decode cL_same 285 = .ok (.invokestatic 71, 3) := by decide +kernel
theorem dL_same_288 : decode cL_same 288 = .ok (.dcmp .l, 1) := by decide +kernel
theorem dL_same_289 : decode cL_same 289 = .ok (.ifCond .ne 7, 3) := by decide +kernel
theorem dL_same_292 : decode cL_same 292 = .ok (.iconst 1, 1) := by decide +kernel
theorem dL_same_293 : decode cL_same 293 = .ok (.goto 4, 3) := by decide +kernel
theorem dL_same_296 : decode cL_same 296 = .ok (.iconst 0, 1) := by decide +kernel
theorem dL_same_297 : decode cL_same 297 = .ok (.istore 12, 2) := by decide +kernel
theorem dL_same_299 : decode cL_same 299 = .ok (.dconst 0, 1) := by decide +kernel
theorem dL_same_300 : decode cL_same 300 = .ok (.dstore 16, 2) := by decide +kernel
theorem dL_same_302 : decode cL_same 302 = .ok (.dconst 0, 1) := by decide +kernel
theorem dL_same_303 : decode cL_same 303 = .ok (.dstore 18, 2) := by decide +kernel
theorem dL_same_305 : decode cL_same 305 = .ok (.ldc2_w 129, 3) := by decide +kernel
theorem dL_same_308 : decode cL_same 308 = .ok (.dstore 20, 2) := by decide +kernel
theorem dL_same_310 : decode cL_same 310 = .ok (.iconst 0, 1) := by decide +kernel
theorem dL_same_311 : decode cL_same 311 = .ok (.istore 22, 2) := by decide +kernel
theorem dL_same_313 : decode cL_same 313 = .ok (.iload 22, 2) := by decide +kernel
theorem dL_same_315 : decode cL_same 315 = .ok (.iconst 4, 1) := by decide +kernel
theorem dL_same_316 : decode cL_same 316 = .ok (.if_icmp .ge 131, 3) := by decide +kernel
theorem dL_same_319 : decode cL_same 319 = .ok (.dconst 1, 1) := by decide +kernel
theorem dL_same_320 : decode cL_same 320 = .ok (.dstore 23, 2) := by decide +kernel
theorem dL_same_322 : decode cL_same 322 = .ok (.iconst 1, 1) := by decide +kernel
theorem dL_same_323 : decode cL_same 323 = .ok (.istore 25, 2) := by decide +kernel
theorem dL_same_325 : decode cL_same 325 = .ok (.iload 25, 2) := by decide +kernel
theorem dL_same_327 : decode cL_same 327 = .ok (.iload 13, 2) := by decide +kernel
theorem dL_same_329 : decode cL_same 329 = .ok (.if_icmp .gt 36, 3) := by decide +kernel
theorem dL_same_332 : decode cL_same 332 = .ok (.dload 23, 2) := by decide +kernel
theorem dL_same_334 : decode cL_same 334 = .ok (.iload 22, 2) := by decide +kernel
theorem dL_same_336 : decode cL_same 336 = .ok (.iload 25, 2) := by decide +kernel
theorem dL_same_338 : decode cL_same 338 = .ok (.iconst 0, 1) := by decide +kernel
theorem dL_same_339 : decode cL_same 339 = .ok (.aload_n 2, 1) := by decide +kernel
theorem dL_same_340 : decode cL_same 340 = .ok (.aload_n 3, 1) := by decide +kernel
theorem dL_same_341 : decode cL_same 341 = .ok (.aload 4, 2) := by decide +kernel
theorem dL_same_343 : decode cL_same 343 = .ok (.aload 5, 2) := by decide +kernel
theorem dL_same_345 : decode cL_same 345 = .ok (.aload 6, 2) := by decide +kernel
theorem dL_same_347 : decode cL_same 347 = .ok (.aload 7, 2) := by decide +kernel
theorem dL_same_349 : decode cL_same 349 = .ok (.aload 8, 2) := by decide +kernel
theorem dL_same_351 : decode cL_same 351 = .ok (.aload 11, 2) := by decide +kernel
theorem dL_same_353 : decode cL_same 353 = .ok (.invokestatic 71, 3) := by decide +kernel
theorem dL_same_356 : decode cL_same 356 = .ok (.dmul, 1) := by decide +kernel
theorem dL_same_357 : decode cL_same 357 = .ok (.dstore 23, 2) := by decide +kernel
theorem dL_same_359 : decode cL_same 359 = .ok (.iinc 25 1, 3) := by decide +kernel
theorem dL_same_362 : decode cL_same 362 = .ok (.goto (-37), 3) := by decide +kernel
theorem dL_same_365 : decode cL_same 365 = .ok (.dload 16, 2) := by decide +kernel
theorem dL_same_367 : decode cL_same 367 = .ok (.iconst 0, 1) := by decide +kernel
theorem dL_same_368 : decode cL_same 368 = .ok (.iload 22, 2) := by decide +kernel
theorem dL_same_370 : decode cL_same 370 = .ok (.iload 13, 2) := by decide +kernel
theorem dL_same_372 : decode cL_same 372 = .ok (.aload 9, 2) := by decide +kernel
theorem dL_same_374 : decode cL_same 374 = .ok (.invokestatic 67, 3) := by decide +kernel
theorem dL_same_377 : decode cL_same 377 = .ok (.dload 23, 2) := by decide +kernel
theorem dL_same_379 : decode cL_same 379 = .ok (.dmul, 1) := by decide +kernel
theorem dL_same_380 : decode cL_same 380 = .ok (.dadd, 1) := by decide +kernel
theorem dL_same_381 : decode cL_same 381 = .ok (.dstore 16, 2) := by decide +kernel
theorem dL_same_383 : decode cL_same 383 = .ok (.iload 22, 2) := by decide +kernel
theorem dL_same_385 : decode cL_same 385 = .ok (.iload 13, 2) := by decide +kernel
theorem dL_same_387 : decode cL_same 387 = .ok (.iconst 0, 1) := by decide +kernel
theorem dL_same_388 : decode cL_same 388 = .ok (.aload_n 2, 1) := by decide +kernel
theorem dL_same_389 : decode cL_same 389 = .ok (.aload_n 3, 1) := by decide +kernel
theorem dL_same_390 : decode cL_same 390 = .ok (.aload 4, 2) := by decide +kernel
theorem dL_same_392 : decode cL_same 392 = .ok (.aload 5, 2) := by decide +kernel
theorem dL_same_394 : decode cL_same 394 = .ok (.aload 6, 2) := by decide +kernel
theorem dL_same_396 : decode cL_same 396 = .ok (.aload 7, 2) := by decide +kernel
theorem dL_same_398 : decode cL_same 398 = .ok (.aload 8, 2) := by decide +kernel
theorem dL_same_400 : decode cL_same 400 = .ok (.aload 11, 2) := by decide +kernel
theorem dL_same_402 : decode cL_same 402 = .ok (.invokestatic 71, 3) := by decide +kernel
theorem dL_same_405 : decode cL_same 405 = .ok (.dstore 25, 2) := by decide +kernel
theorem dL_same_407 : decode cL_same 407 = .ok (.dload 25, 2) := by decide +kernel
theorem dL_same_409 : decode cL_same 409 = .ok (.dload 18, 2) := by decide +kernel
theorem dL_same_411 : decode cL_same 411 = .ok (.dcmp .l, 1) := by decide +kernel
theorem dL_same_412 : decode cL_same 412 = .ok (.ifCond .le 8, 3) := by decide +kernel
theorem dL_same_415 : decode cL_same 415 = .ok (.dload 25, 2) := by decide +kernel
theorem dL_same_417 : decode cL_same 417 = .ok (.goto 5, 3) := by decide +kernel
theorem dL_same_420 : decode cL_same 420 = .ok (.dload 18, 2) := by decide +kernel
theorem dL_same_422 : decode cL_same 422 = .ok (.dstore 18, 2) := by decide +kernel
theorem dL_same_424 : decode cL_same 424 = .ok (.dload 25, 2) := by decide +kernel
theorem dL_same_426 : decode cL_same 426 = .ok (.dload 20, 2) := by decide +kernel
theorem dL_same_428 : decode cL_same 428 = .ok (.dcmp .g, 1) := by decide +kernel
theorem dL_same_429 : decode cL_same 429 = .ok (.ifCond .ge 8, 3) := by decide +kernel
theorem dL_same_432 : decode cL_same 432 = .ok (.dload 25, 2) := by decide +kernel
theorem dL_same_434 : decode cL_same 434 = .ok (.goto 5, 3) := by decide +kernel
theorem dL_same_437 : decode cL_same 437 = .ok (.dload 20, 2) := by decide +kernel
theorem dL_same_439 : decode cL_same 439 = .ok (.dstore 20, 2) := by decide +kernel
theorem dL_same_441 : decode cL_same 441 = .ok (.iinc 22 1, 3) := by decide +kernel
theorem dL_same_444 : decode cL_same 444 = .ok (.goto (-131), 3) := by decide +kernel
theorem dL_same_447 : decode cL_same 447 = .ok (.dconst 0, 1) := by decide +kernel
theorem dL_same_448 : decode cL_same 448 = .ok (.dstore 22, 2) := by decide +kernel
theorem dL_same_450 : decode cL_same 450 = .ok (.iconst 0, 1) := by decide +kernel
theorem dL_same_451 : decode cL_same 451 = .ok (.istore 24, 2) := by decide +kernel
theorem dL_same_453 : decode cL_same 453 = .ok (.iconst 0, 1) := by decide +kernel
theorem dL_same_454 : decode cL_same 454 = .ok (.istore 25, 2) := by decide +kernel
theorem dL_same_456 : decode cL_same 456 = .ok (.iconst 0, 1) := by decide +kernel
theorem dL_same_457 : decode cL_same 457 = .ok (.istore 26, 2) := by decide +kernel
theorem dL_same_459 : decode cL_same 459 = .ok (.iload 26, 2) := by decide +kernel
theorem dL_same_461 : decode cL_same 461 = .ok (.iconst 4, 1) := by decide +kernel
theorem dL_same_462 : decode cL_same 462 = .ok (.if_icmp .ge 134, 3) := by decide +kernel
theorem dL_same_465 : decode cL_same 465 = .ok (.iload 26, 2) := by decide +kernel
theorem dL_same_467 : decode cL_same 467 = .ok (.iload 13, 2) := by decide +kernel
theorem dL_same_469 : decode cL_same 469 = .ok (.iconst 0, 1) := by decide +kernel
theorem dL_same_470 : decode cL_same 470 = .ok (.aload_n 2, 1) := by decide +kernel
theorem dL_same_471 : decode cL_same 471 = .ok (.aload_n 3, 1) := by decide +kernel
theorem dL_same_472 : decode cL_same 472 = .ok (.aload 4, 2) := by decide +kernel
theorem dL_same_474 : decode cL_same 474 = .ok (.aload 5, 2) := by decide +kernel
theorem dL_same_476 : decode cL_same 476 = .ok (.aload 6, 2) := by decide +kernel
theorem dL_same_478 : decode cL_same 478 = .ok (.aload 7, 2) := by decide +kernel
theorem dL_same_480 : decode cL_same 480 = .ok (.aload 8, 2) := by decide +kernel
theorem dL_same_482 : decode cL_same 482 = .ok (.aload 11, 2) := by decide +kernel
theorem dL_same_484 : decode cL_same 484 = .ok (.invokestatic 71, 3) := by decide +kernel
theorem dL_same_487 : decode cL_same 487 = .ok (.dstore 27, 2) := by decide +kernel
theorem dL_same_489 : decode cL_same 489 = .ok (.dload 27, 2) := by decide +kernel
theorem dL_same_491 : decode cL_same 491 = .ok (.dload 18, 2) := by decide +kernel
theorem dL_same_493 : decode cL_same 493 = .ok (.dcmp .l, 1) := by decide +kernel
theorem dL_same_494 : decode cL_same 494 = .ok (.ifCond .ne 12, 3) := by decide +kernel
theorem dL_same_497 : decode cL_same 497 = .ok (.iload 24, 2) := by decide +kernel
theorem dL_same_499 : decode cL_same 499 = .ok (.ifCond .ne 7, 3) := by decide +kernel
theorem dL_same_502 : decode cL_same 502 = .ok (.iconst 1, 1) := by decide +kernel
theorem dL_same_503 : decode cL_same 503 = .ok (.goto 4, 3) := by decide +kernel
theorem dL_same_506 : decode cL_same 506 = .ok (.iconst 0, 1) := by decide +kernel
theorem dL_same_507 : decode cL_same 507 = .ok (.istore 29, 2) := by decide +kernel
theorem dL_same_509 : decode cL_same 509 = .ok (.iload 24, 2) := by decide +kernel
theorem dL_same_511 : decode cL_same 511 = .ok (.ifCond .ne 8, 3) := by decide +kernel
theorem dL_same_514 : decode cL_same 514 = .ok (.iload 29, 2) := by decide +kernel
theorem dL_same_516 : decode cL_same 516 = .ok (.ifCond .eq 7, 3) := by decide +kernel
theorem dL_same_519 : decode cL_same 519 = .ok (.iconst 1, 1) := by decide +kernel
theorem dL_same_520 : decode cL_same 520 = .ok (.goto 4, 3) := by decide +kernel
theorem dL_same_523 : decode cL_same 523 = .ok (.iconst 0, 1) := by decide +kernel
theorem dL_same_524 : decode cL_same 524 = .ok (.istore 24, 2) := by decide +kernel
theorem dL_same_526 : decode cL_same 526 = .ok (.iload 29, 2) := by decide +kernel
theorem dL_same_528 : decode cL_same 528 = .ok (.ifCond .ne 20, 3) := by decide +kernel
theorem dL_same_531 : decode cL_same 531 = .ok (.dload 27, 2) := by decide +kernel
theorem dL_same_533 : decode cL_same 533 = .ok (.dload 20, 2) := by decide +kernel
theorem dL_same_535 : decode cL_same 535 = .ok (.dcmp .l, 1) := by decide +kernel
theorem dL_same_536 : decode cL_same 536 = .ok (.ifCond .ne 12, 3) := by decide +kernel
theorem dL_same_539 : decode cL_same 539 = .ok (.iload 25, 2) := by decide +kernel
theorem dL_same_541 : decode cL_same 541 = .ok (.ifCond .ne 7, 3) := by decide +kernel
theorem dL_same_544 : decode cL_same 544 = .ok (.iconst 1, 1) := by decide +kernel
theorem dL_same_545 : decode cL_same 545 = .ok (.goto 4, 3) := by decide +kernel
theorem dL_same_548 : decode cL_same 548 = .ok (.iconst 0, 1) := by decide +kernel
theorem dL_same_549 : decode cL_same 549 = .ok (.istore 30, 2) := by decide +kernel
theorem dL_same_551 : decode cL_same 551 = .ok (.iload 25, 2) := by decide +kernel
theorem dL_same_553 : decode cL_same 553 = .ok (.ifCond .ne 8, 3) := by decide +kernel
theorem dL_same_556 : decode cL_same 556 = .ok (.iload 30, 2) := by decide +kernel
theorem dL_same_558 : decode cL_same 558 = .ok (.ifCond .eq 7, 3) := by decide +kernel
theorem dL_same_561 : decode cL_same 561 = .ok (.iconst 1, 1) := by decide +kernel
theorem dL_same_562 : decode cL_same 562 = .ok (.goto 4, 3) := by decide +kernel
theorem dL_same_565 : decode cL_same 565 = .ok (.iconst 0, 1) := by decide +kernel
theorem dL_same_566 : decode cL_same 566 = .ok (.istore 25, 2) := by decide +kernel
theorem dL_same_568 : decode cL_same 568 = .ok (.iload 29, 2) := by decide +kernel
theorem dL_same_570 : decode cL_same 570 = .ok (.ifCond .ne 8, 3) := by decide +kernel
theorem dL_same_573 : decode cL_same 573 = .ok (.iload 30, 2) := by decide +kernel
theorem dL_same_575 : decode cL_same 575 = .ok (.ifCond .eq 8, 3) := by decide +kernel
theorem dL_same_578 : decode cL_same 578 = .ok (.dload 22, 2) := by decide +kernel
theorem dL_same_580 : decode cL_same 580 = .ok (.goto 8, 3) := by decide +kernel
theorem dL_same_583 : decode cL_same 583 = .ok (.dload 22, 2) := by decide +kernel
theorem dL_same_585 : decode cL_same 585 = .ok (.dload 27, 2) := by decide +kernel
theorem dL_same_587 : decode cL_same 587 = .ok (.dadd, 1) := by decide +kernel
theorem dL_same_588 : decode cL_same 588 = .ok (.dstore 22, 2) := by decide +kernel
theorem dL_same_590 : decode cL_same 590 = .ok (.iinc 26 1, 3) := by decide +kernel
theorem dL_same_593 : decode cL_same 593 = .ok (.goto (-134), 3) := by decide +kernel
theorem dL_same_596 : decode cL_same 596 = .ok (.iload 12, 2) := by decide +kernel
theorem dL_same_598 : decode cL_same 598 = .ok (.ifCond .eq 39, 3) := by decide +kernel
theorem dL_same_601 : decode cL_same 601 = .ok (.aload_n 0, 1) := by decide +kernel
theorem dL_same_602 : decode cL_same 602 = .ok (.iload 13, 2) := by decide +kernel
theorem dL_same_604 : decode cL_same 604 = .ok (.invokevirtual 131, 3) := by decide +kernel
theorem dL_same_607 : decode cL_same 607 = .ok (.ldc2_w 65, 3) := by decide +kernel
theorem dL_same_610 : decode cL_same 610 = .ok (.dload 16, 2) := by decide +kernel
theorem dL_same_612 : decode cL_same 612 = .ok (.dmul, 1) := by decide +kernel
theorem dL_same_613 : decode cL_same 613 = .ok (.dcmp .l, 1) := by decide +kernel
theorem dL_same_614 : decode cL_same 614 = .ok (.ifCond .ne 23, 3) := by decide +kernel
theorem dL_same_617 : decode cL_same 617 = .ok (.aload_n 0, 1) := by decide +kernel
theorem dL_same_618 : decode cL_same 618 = .ok (.iload 13, 2) := by decide +kernel
theorem dL_same_620 : decode cL_same 620 = .ok (.invokevirtual 135, 3) := by decide +kernel
theorem dL_same_623 : decode cL_same 623 = .ok (.dload 22, 2) := by decide +kernel
theorem dL_same_625 : decode cL_same 625 = .ok (.ldc2_w 138, 3) := by decide +kernel
theorem dL_same_628 : decode cL_same 628 = .ok (.ddiv, 1) := by decide +kernel
theorem dL_same_629 : decode cL_same 629 = .ok (.dcmp .l, 1) := by decide +kernel
theorem dL_same_630 : decode cL_same 630 = .ok (.ifCond .ne 7, 3) := by decide +kernel
theorem dL_same_633 : decode cL_same 633 = .ok (.iconst 1, 1) := by decide +kernel
theorem dL_same_634 : decode cL_same 634 = .ok (.goto 4, 3) := by decide +kernel
theorem dL_same_637 : decode cL_same 637 = .ok (.iconst 0, 1) := by decide +kernel
theorem dL_same_638 : decode cL_same 638 = .ok (.istore 12, 2) := by decide +kernel
theorem dL_same_640 : decode cL_same 640 = .ok (.iconst 0, 1) := by decide +kernel
theorem dL_same_641 : decode cL_same 641 = .ok (.istore 26, 2) := by decide +kernel
theorem dL_same_643 : decode cL_same 643 = .ok (.iconst 0, 1) := by decide +kernel
theorem dL_same_644 : decode cL_same 644 = .ok (.istore 27, 2) := by decide +kernel
theorem dL_same_646 : decode cL_same 646 = .ok (.iload 27, 2) := by decide +kernel
theorem dL_same_648 : decode cL_same 648 = .ok (.aload 11, 2) := by decide +kernel
theorem dL_same_650 : decode cL_same 650 = .ok (.iconst 0, 1) := by decide +kernel
theorem dL_same_651 : decode cL_same 651 = .ok (.iaload, 1) := by decide +kernel
theorem dL_same_652 : decode cL_same 652 = .ok (.if_icmp .ge 241, 3) := by decide +kernel
theorem dL_same_655 : decode cL_same 655 = .ok (.iload 12, 2) := by decide +kernel
theorem dL_same_657 : decode cL_same 657 = .ok (.ifCond .eq 236, 3) := by decide +kernel
theorem dL_same_660 : decode cL_same 660 = .ok (.iload 26, 2) := by decide +kernel
theorem dL_same_662 : decode cL_same 662 = .ok (.iload 27, 2) := by decide +kernel
theorem dL_same_664 : decode cL_same 664 = .ok (.iload 13, 2) := by decide +kernel
theorem dL_same_666 : decode cL_same 666 = .ok (.bipush 8, 2) := by decide +kernel
theorem dL_same_668 : decode cL_same 668 = .ok (.iconst 0, 1) := by decide +kernel
theorem dL_same_669 : decode cL_same 669 = .ok (.aload_n 2, 1) := by decide +kernel
theorem dL_same_670 : decode cL_same 670 = .ok (.aload_n 3, 1) := by decide +kernel
theorem dL_same_671 : decode cL_same 671 = .ok (.aload 4, 2) := by decide +kernel
theorem dL_same_673 : decode cL_same 673 = .ok (.aload 5, 2) := by decide +kernel
theorem dL_same_675 : decode cL_same 675 = .ok (.aload 6, 2) := by decide +kernel
theorem dL_same_677 : decode cL_same 677 = .ok (.aload 7, 2) := by decide +kernel
theorem dL_same_679 : decode cL_same 679 = .ok (.aload 8, 2) := by decide +kernel
theorem dL_same_681 : decode cL_same 681 = .ok (.invokestatic 59, 3) := by decide +kernel
theorem dL_same_684 : decode cL_same 684 = .ok (.d2i, 1) := by decide +kernel
theorem dL_same_685 : decode cL_same 685 = .ok (.iadd, 1) := by decide +kernel
theorem dL_same_686 : decode cL_same 686 = .ok (.istore 26, 2) := by decide +kernel
theorem dL_same_688 : decode cL_same 688 = .ok (.iload_n 1, 1) := by decide +kernel
theorem dL_same_689 : decode cL_same 689 = .ok (.iconst 4, 1) := by decide +kernel
theorem dL_same_690 : decode cL_same 690 = .ok (.ishr, 1) := by decide +kernel
theorem dL_same_691 : decode cL_same 691 = .ok (.iconst 3, 1) := by decide +kernel
theorem dL_same_692 : decode cL_same 692 = .ok (.invokestatic 107, 3) := by decide +kernel
theorem dL_same_695 : decode cL_same 695 = .ok (.istore 28, 2) := by decide +kernel
theorem dL_same_697 : decode cL_same 697 = .ok (.aload_n 0, 1) := by decide +kernel
theorem dL_same_698 : decode cL_same 698 = .ok (.iload 27, 2) := by decide +kernel
theorem dL_same_700 : decode cL_same 700 = .ok (.iload 13, 2) := by decide +kernel
theorem dL_same_702 : decode cL_same 702 = .ok (.invokevirtual 140, 3) := by decide +kernel
theorem dL_same_705 : decode cL_same 705 = .ok (.iload 27, 2) := by decide +kernel
theorem dL_same_707 : decode cL_same 707 = .ok (.iload 13, 2) := by decide +kernel
theorem dL_same_709 : decode cL_same 709 = .ok (.iconst 3, 1) := by decide +kernel
theorem dL_same_710 : decode cL_same 710 = .ok (.iconst 0, 1) := by decide +kernel
theorem dL_same_711 : decode cL_same 711 = .ok (.aload_n 2, 1) := by decide +kernel
theorem dL_same_712 : decode cL_same 712 = .ok (.aload_n 3, 1) := by decide +kernel
theorem dL_same_713 : decode cL_same 713 = .ok (.aload 4, 2) := by decide +kernel
theorem dL_same_715 : decode cL_same 715 = .ok (.aload 5, 2) := by decide +kernel
theorem dL_same_717 : decode cL_same 717 = .ok (.aload 6, 2) := by decide +kernel
theorem dL_same_719 : decode cL_same 719 = .ok (.aload 7, 2) := by decide +kernel
theorem dL_same_721 : decode cL_same 721 = .ok (.aload 8, 2) := by decide +kernel
theorem dL_same_723 : decode cL_same 723 = .ok (.invokestatic 59, 3) := by decide +kernel
theorem dL_same_726 : decode cL_same 726 = .ok (.dcmp .l, 1) := by decide +kernel
theorem dL_same_727 : decode cL_same 727 = .ok (.ifCond .ne 157, 3) := by decide +kernel
theorem dL_same_730 : decode cL_same 730 = .ok (.aload_n 0, 1) := by decide +kernel
theorem dL_same_731 : decode cL_same 731 = .ok (.iload 27, 2) := by decide +kernel
theorem dL_same_733 : decode cL_same 733 = .ok (.iload 13, 2) := by decide +kernel
theorem dL_same_735 : decode cL_same 735 = .ok (.invokevirtual 143, 3) := by decide +kernel
theorem dL_same_738 : decode cL_same 738 = .ok (.iload 27, 2) := by decide +kernel
theorem dL_same_740 : decode cL_same 740 = .ok (.iload 13, 2) := by decide +kernel
theorem dL_same_742 : decode cL_same 742 = .ok (.iconst 4, 1) := by decide +kernel
theorem dL_same_743 : decode cL_same 743 = .ok (.iconst 0, 1) := by decide +kernel
theorem dL_same_744 : decode cL_same 744 = .ok (.aload_n 2, 1) := by decide +kernel
theorem dL_same_745 : decode cL_same 745 = .ok (.aload_n 3, 1) := by decide +kernel
theorem dL_same_746 : decode cL_same 746 = .ok (.aload 4, 2) := by decide +kernel
theorem dL_same_748 : decode cL_same 748 = .ok (.aload 5, 2) := by decide +kernel
theorem dL_same_750 : decode cL_same 750 = .ok (.aload 6, 2) := by decide +kernel
theorem dL_same_752 : decode cL_same 752 = .ok (.aload 7, 2) := by decide +kernel
theorem dL_same_754 : decode cL_same 754 = .ok (.aload 8, 2) := by decide +kernel
theorem dL_same_756 : decode cL_same 756 = .ok (.invokestatic 59, 3) := by decide +kernel
theorem dL_same_759 : decode cL_same 759 = .ok (.dcmp .l, 1) := by decide +kernel
theorem dL_same_760 : decode cL_same 760 = .ok (.ifCond .ne 124, 3) := by decide +kernel
theorem dL_same_763 : decode cL_same 763 = .ok (.aload_n 0, 1) := by decide +kernel
theorem dL_same_764 : decode cL_same 764 = .ok (.iload 27, 2) := by decide +kernel
theorem dL_same_766 : decode cL_same 766 = .ok (.iload 28, 2) := by decide +kernel
theorem dL_same_768 : decode cL_same 768 = .ok (.invokestatic 146, 3) := by decide +kernel
theorem dL_same_771 : decode cL_same 771 = .ok (.iload 13, 2) := by decide +kernel
theorem dL_same_773 : decode cL_same 773 = .ok (.invokevirtual 149, 3) := by decide +kernel
theorem dL_same_776 : decode cL_same 776 = .ok (.iload 27, 2) := by decide +kernel
theorem dL_same_778 : decode cL_same 778 = .ok (.iload 13, 2) := by decide +kernel
theorem dL_same_780 : decode cL_same 780 = .ok (.iload 28, 2) := by decide +kernel
theorem dL_same_782 : decode cL_same 782 = .ok (.iconst 0, 1) := by decide +kernel
theorem dL_same_783 : decode cL_same 783 = .ok (.aload_n 2, 1) := by decide +kernel
theorem dL_same_784 : decode cL_same 784 = .ok (.aload_n 3, 1) := by decide +kernel
theorem dL_same_785 : decode cL_same 785 = .ok (.aload 4, 2) := by decide +kernel
theorem dL_same_787 : decode cL_same 787 = .ok (.aload 5, 2) := by decide +kernel
theorem dL_same_789 : decode cL_same 789 = .ok (.aload 6, 2) := by decide +kernel
theorem dL_same_791 : decode cL_same 791 = .ok (.aload 7, 2) := by decide +kernel
theorem dL_same_793 : decode cL_same 793 = .ok (.aload 8, 2) := by decide +kernel
theorem dL_same_795 : decode cL_same 795 = .ok (.invokestatic 59, 3) := by decide +kernel
theorem dL_same_798 : decode cL_same 798 = .ok (.dcmp .l, 1) := by decide +kernel
theorem dL_same_799 : decode cL_same 799 = .ok (.ifCond .ne 85, 3) := by decide +kernel
theorem dL_same_802 : decode cL_same 802 = .ok (.aload_n 0, 1) := by decide +kernel
theorem dL_same_803 : decode cL_same 803 = .ok (.iload 27, 2) := by decide +kernel
theorem dL_same_805 : decode cL_same 805 = .ok (.iload 28, 2) := by decide +kernel
theorem dL_same_807 : decode cL_same 807 = .ok (.invokestatic 146, 3) := by decide +kernel

theorem dX7_init_0 : decode cX7_init 0 = .ok (.aload_n 0, 1) := by decide +kernel
theorem dX7_init_1 : decode cX7_init 1 = .ok (.invokespecial 1, 3) := by decide +kernel
theorem dX7_init_4 : decode cX7_init 4 = .ok (.aload_n 0, 1) := by decide +kernel
theorem dX7_init_5 : decode cX7_init 5 = .ok (.bipush 12, 2) := by decide +kernel
theorem dX7_init_7 : decode cX7_init 7 = .ok (.newarray .int, 2) := by decide +kernel
theorem dX7_init_9 : decode cX7_init 9 = .ok (.putfield 7, 3) := by decide +kernel
theorem dX7_init_12 : decode cX7_init 12 = .ok (.aload_n 0, 1) := by decide +kernel
theorem dX7_init_13 : decode cX7_init 13 = .ok (.bipush 12, 2) := by decide +kernel
theorem dX7_init_15 : decode cX7_init 15 = .ok (.newarray .int, 2) := by decide +kernel
theorem dX7_init_17 : decode cX7_init 17 = .ok (.putfield 13, 3) := by decide +kernel
theorem dX7_init_20 : decode cX7_init 20 = .ok (.aload_n 0, 1) := by decide +kernel
theorem dX7_init_21 : decode cX7_init 21 = .ok (.bipush 12, 2) := by decide +kernel
theorem dX7_init_23 : decode cX7_init 23 = .ok (.newarray .int, 2) := by decide +kernel
theorem dX7_init_25 : decode cX7_init 25 = .ok (.putfield 16, 3) := by decide +kernel
theorem dX7_init_28 : decode cX7_init 28 = .ok (.aload_n 0, 1) := by decide +kernel
theorem dX7_init_29 : decode cX7_init 29 = .ok (.sipush 1152, 3) := by decide +kernel
theorem dX7_init_32 : decode cX7_init 32 = .ok (.newarray .int, 2) := by decide +kernel
theorem dX7_init_34 : decode cX7_init 34 = .ok (.putfield 19, 3) := by decide +kernel
theorem dX7_init_37 : decode cX7_init 37 = .ok (.aload_n 0, 1) := by decide +kernel
theorem dX7_init_38 : decode cX7_init 38 = .ok (.sipush 1152, 3) := by decide +kernel
theorem dX7_init_41 : decode cX7_init 41 = .ok (.newarray .int, 2) := by decide +kernel
theorem dX7_init_43 : decode cX7_init 43 = .ok (.putfield 22, 3) := by decide +kernel
theorem dX7_init_46 : decode cX7_init 46 = .ok (.aload_n 0, 1) := by decide +kernel
theorem dX7_init_47 : decode cX7_init 47 = .ok (.sipush 1152, 3) := by decide +kernel
theorem dX7_init_50 : decode cX7_init 50 = .ok (.newarray .int, 2) := by decide +kernel
theorem dX7_init_52 : decode cX7_init 52 = .ok (.putfield 25, 3) := by decide +kernel
theorem dX7_init_55 : decode cX7_init 55 = .ok (.aload_n 0, 1) := by decide +kernel
theorem dX7_init_56 : decode cX7_init 56 = .ok (.sipush 1152, 3) := by decide +kernel
theorem dX7_init_59 : decode cX7_init 59 = .ok (.newarray .boolean, 2) := by decide +kernel
theorem dX7_init_61 : decode cX7_init 61 = .ok (.putfield 28, 3) := by decide +kernel
theorem dX7_init_64 : decode cX7_init 64 = .ok (.aload_n 0, 1) := by decide +kernel
theorem dX7_init_65 : decode cX7_init 65 = .ok (.sipush 1152, 3) := by decide +kernel
theorem dX7_init_68 : decode cX7_init 68 = .ok (.newarray .int, 2) := by decide +kernel
theorem dX7_init_70 : decode cX7_init 70 = .ok (.putfield 32, 3) := by decide +kernel
theorem dX7_init_73 : decode cX7_init 73 = .ok (.aload_n 0, 1) := by decide +kernel
theorem dX7_init_74 : decode cX7_init 74 = .ok (.sipush 1152, 3) := by decide +kernel
theorem dX7_init_77 : decode cX7_init 77 = .ok (.newarray .int, 2) := by decide +kernel
theorem dX7_init_79 : decode cX7_init 79 = .ok (.putfield 35, 3) := by decide +kernel
theorem dX7_init_82 : decode cX7_init 82 = .ok (.aload_n 0, 1) := by decide +kernel
theorem dX7_init_83 : decode cX7_init 83 = .ok (.bipush 12, 2) := by decide +kernel
theorem dX7_init_85 : decode cX7_init 85 = .ok (.newarray .int, 2) := by decide +kernel
theorem dX7_init_87 : decode cX7_init 87 = .ok (.putfield 38, 3) := by decide +kernel
theorem dX7_init_90 : decode cX7_init 90 = .ok (.aload_n 0, 1) := by decide +kernel
theorem dX7_init_91 : decode cX7_init 91 = .ok (.bipush 12, 2) := by decide +kernel
theorem dX7_init_93 : decode cX7_init 93 = .ok (.newarray .int, 2) := by decide +kernel
theorem dX7_init_95 : decode cX7_init 95 = .ok (.putfield 41, 3) := by decide +kernel
theorem dX7_init_98 : decode cX7_init 98 = .ok (.aload_n 0, 1) := by decide +kernel
theorem dX7_init_99 : decode cX7_init 99 = .ok (.sipush 288, 3) := by decide +kernel
theorem dX7_init_102 : decode cX7_init 102 = .ok (.newarray .int, 2) := by decide +kernel
theorem dX7_init_104 : decode cX7_init 104 = .ok (.putfield 44, 3) := by decide +kernel
theorem dX7_init_107 : decode cX7_init 107 = .ok (.aload_n 0, 1) := by decide +kernel
theorem dX7_init_108 : decode cX7_init 108 = .ok (.sipush 2304, 3) := by decide +kernel
theorem dX7_init_111 : decode cX7_init 111 = .ok (.newarray .double, 2) := by decide +kernel
theorem dX7_init_113 : decode cX7_init 113 = .ok (.putfield 47, 3) := by decide +kernel
theorem dX7_init_116 : decode cX7_init 116 = .ok (.aload_n 0, 1) := by decide +kernel
theorem dX7_init_117 : decode cX7_init 117 = .ok (.sipush 2304, 3) := by decide +kernel
theorem dX7_init_120 : decode cX7_init 120 = .ok (.newarray .boolean, 2) := by decide +kernel
theorem dX7_init_122 : decode cX7_init 122 = .ok (.putfield 51, 3) := by decide +kernel
theorem dX7_init_125 : decode cX7_init 125 = .ok (.aload_n 0, 1) := by decide +kernel
theorem dX7_init_126 : decode cX7_init 126 = .ok (.sipush 576, 3) := by decide +kernel
theorem dX7_init_129 : decode cX7_init 129 = .ok (.newarray .double, 2) := by decide +kernel
theorem dX7_init_131 : decode cX7_init 131 = .ok (.putfield 54, 3) := by decide +kernel
theorem dX7_init_134 : decode cX7_init 134 = .ok (.aload_n 0, 1) := by decide +kernel
theorem dX7_init_135 : decode cX7_init 135 = .ok (.sipush 192, 3) := by decide +kernel
theorem dX7_init_138 : decode cX7_init 138 = .ok (.newarray .double, 2) := by decide +kernel
theorem dX7_init_140 : decode cX7_init 140 = .ok (.putfield 57, 3) := by decide +kernel
theorem dX7_init_143 : decode cX7_init 143 = .ok (.aload_n 0, 1) := by decide +kernel
theorem dX7_init_144 : decode cX7_init 144 = .ok (.sipush 240, 3) := by decide +kernel
theorem dX7_init_147 : decode cX7_init 147 = .ok (.newarray .double, 2) := by decide +kernel
theorem dX7_init_149 : decode cX7_init 149 = .ok (.putfield 60, 3) := by decide +kernel
theorem dX7_init_152 : decode cX7_init 152 = .ok (.aload_n 0, 1) := by decide +kernel
theorem dX7_init_153 : decode cX7_init 153 = .ok (.bipush 48, 2) := by decide +kernel
theorem dX7_init_155 : decode cX7_init 155 = .ok (.newarray .int, 2) := by decide +kernel
theorem dX7_init_157 : decode cX7_init 157 = .ok (.putfield 63, 3) := by decide +kernel
theorem dX7_init_160 : decode cX7_init 160 = .ok (.aload_n 0, 1) := by decide +kernel
theorem dX7_init_161 : decode cX7_init 161 = .ok (.bipush 10, 2) := by decide +kernel
theorem dX7_init_163 : decode cX7_init 163 = .ok (.newarray .int, 2) := by decide +kernel
theorem dX7_init_165 : decode cX7_init 165 = .ok (.putfield 66, 3) := by decide +kernel
theorem dX7_init_168 : decode cX7_init 168 = .ok (.aload_n 0, 1) := by decide +kernel
theorem dX7_init_169 : decode cX7_init 169 = .ok (.bipush 10, 2) := by decide +kernel
theorem dX7_init_171 : decode cX7_init 171 = .ok (.newarray .int, 2) := by decide +kernel
theorem dX7_init_173 : decode cX7_init 173 = .ok (.putfield 69, 3) := by decide +kernel
theorem dX7_init_176 : decode cX7_init 176 = .ok (.aload_n 0, 1) := by decide +kernel
theorem dX7_init_177 : decode cX7_init 177 = .ok (.bipush 10, 2) := by decide +kernel
theorem dX7_init_179 : decode cX7_init 179 = .ok (.newarray .boolean, 2) := by decide +kernel
theorem dX7_init_181 : decode cX7_init 181 = .ok (.putfield 72, 3) := by decide +kernel
theorem dX7_init_184 : decode cX7_init 184 = .ok (.aload_n 0, 1) := by decide +kernel
theorem dX7_init_185 : decode cX7_init 185 = .ok (.bipush 10, 2) := by decide +kernel
theorem dX7_init_187 : decode cX7_init 187 = .ok (.newarray .long, 2) := by decide +kernel
theorem dX7_init_189 : decode cX7_init 189 = .ok (.putfield 75, 3) := by decide +kernel
theorem dX7_init_192 : decode cX7_init 192 = .ok (.aload_n 0, 1) := by decide +kernel
theorem dX7_init_193 : decode cX7_init 193 = .ok (.bipush 10, 2) := by decide +kernel
theorem dX7_init_195 : decode cX7_init 195 = .ok (.newarray .int, 2) := by decide +kernel
theorem dX7_init_197 : decode cX7_init 197 = .ok (.putfield 79, 3) := by decide +kernel
theorem dX7_init_200 : decode cX7_init 200 = .ok (.aload_n 0, 1) := by decide +kernel
theorem dX7_init_201 : decode cX7_init 201 = .ok (.bipush 10, 2) := by decide +kernel
theorem dX7_init_203 : decode cX7_init 203 = .ok (.newarray .long, 2) := by decide +kernel
theorem dX7_init_205 : decode cX7_init 205 = .ok (.putfield 82, 3) := by decide +kernel
theorem dX7_init_208 : decode cX7_init 208 = .ok (.aload_n 0, 1) := by decide +kernel
theorem dX7_init_209 : decode cX7_init 209 = .ok (.bipush 10, 2) := by decide +kernel
theorem dX7_init_211 : decode cX7_init 211 = .ok (.newarray .long, 2) := by decide +kernel
theorem dX7_init_213 : decode cX7_init 213 = .ok (.putfield 85, 3) := by decide +kernel
theorem dX7_init_216 : decode cX7_init 216 = .ok (.aload_n 0, 1) := by decide +kernel
theorem dX7_init_217 : decode cX7_init 217 = .ok (.bipush 10, 2) := by decide +kernel
theorem dX7_init_219 : decode cX7_init 219 = .ok (.newarray .int, 2) := by decide +kernel
theorem dX7_init_221 : decode cX7_init 221 = .ok (.putfield 88, 3) := by decide +kernel
theorem dX7_init_224 : decode cX7_init 224 = .ok (.aload_n 0, 1) := by decide +kernel
theorem dX7_init_225 : decode cX7_init 225 = .ok (.bipush 10, 2) := by decide +kernel
theorem dX7_init_227 : decode cX7_init 227 = .ok (.newarray .long, 2) := by decide +kernel
theorem dX7_init_229 : decode cX7_init 229 = .ok (.putfield 91, 3) := by decide +kernel
theorem dX7_init_232 : decode cX7_init 232 = .ok (.return_, 1) := by decide +kernel
theorem dX7_thrown_0 : decode cX7_thrown 0 = .ok (.aload_n 0, 1) := by decide +kernel
theorem dX7_thrown_1 : decode cX7_thrown 1 = .ok (.getfield 94, 3) := by decide +kernel
theorem dX7_thrown_4 : decode cX7_thrown 4 = .ok (.ireturn, 1) := by decide +kernel
theorem dX7_in_0 : decode cX7_in 0 = .ok (.iload_n 0, 1) := by decide +kernel
theorem dX7_in_1 : decode cX7_in 1 = .ok (.iload_n 1, 1) := by decide +kernel
theorem dX7_in_2 : decode cX7_in 2 = .ok (.if_icmp .lt 12, 3) := by decide +kernel
theorem dX7_in_5 : decode cX7_in 5 = .ok (.iload_n 0, 1) := by decide +kernel
theorem dX7_in_6 : decode cX7_in 6 = .ok (.iload_n 2, 1) := by decide +kernel
theorem dX7_in_7 : decode cX7_in 7 = .ok (.if_icmp .gt 7, 3) := by decide +kernel
theorem dX7_in_10 : decode cX7_in 10 = .ok (.iconst 1, 1) := by decide +kernel
theorem dX7_in_11 : decode cX7_in 11 = .ok (.goto 4, 3) := by decide +kernel
theorem dX7_in_14 : decode cX7_in 14 = .ok (.iconst 0, 1) := by decide +kernel
theorem dX7_in_15 : decode cX7_in 15 = .ok (.ireturn, 1) := by decide +kernel
set_option maxRecDepth 20000 in
theorem ggX7_isItem_X7_in : GoodIn wsX7_isItem wsX7_in := goodIn_r _ [5] (by decide +kernel) (by decide +kernel)
set_option maxRecDepth 20000 in
theorem gX7_isItem_X7_in : GoodIn wsX7_isItem (va_wsS RX7 101 yX7_in wsX7_in) := goodIn_app (goodIn_of _ (by decide +kernel)) ggX7_isItem_X7_in
theorem dX7_isItem_0 : decode cX7_isItem 0 = .ok (.iload_n 1, 1) := by decide +kernel
theorem dX7_isItem_1 : decode cX7_isItem 1 = .ok (.iconst 0, 1) := by decide +kernel
theorem dX7_isItem_2 : decode cX7_isItem 2 = .ok (.aload_n 0, 1) := by decide +kernel
theorem dX7_isItem_3 : decode cX7_isItem 3 = .ok (.getfield 98, 3) := by decide +kernel
theorem dX7_isItem_6 : decode cX7_isItem 6 = .ok (.iconst 1, 1) := by decide +kernel
theorem dX7_isItem_7 : decode cX7_isItem 7 = .ok (.isub, 1) := by decide +kernel
theorem dX7_isItem_8 : decode cX7_isItem 8 = .ok (.invokestatic 101, 3) := by decide +kernel
theorem dX7_isItem_11 : decode cX7_isItem 11 = .ok (.ireturn, 1) := by decide +kernel
set_option maxRecDepth 20000 in
theorem ggX7_isOutlet_X7_in : GoodIn wsX7_isOutlet wsX7_in := goodIn_r _ [4] (by decide +kernel) (by decide +kernel)
set_option maxRecDepth 20000 in
theorem gX7_isOutlet_X7_in : GoodIn wsX7_isOutlet (va_wsS RX7 101 yX7_in wsX7_in) := goodIn_app (goodIn_of _ (by decide +kernel)) ggX7_isOutlet_X7_in
theorem dX7_isOutlet_0 : decode cX7_isOutlet 0 = .ok (.iload_n 0, 1) := by decide +kernel
theorem dX7_isOutlet_1 : decode cX7_isOutlet 1 = .ok (.iconst 0, 1) := by decide +kernel
theorem dX7_isOutlet_2 : decode cX7_isOutlet 2 = .ok (.iconst 3, 1) := by decide +kernel
theorem dX7_isOutlet_3 : decode cX7_isOutlet 3 = .ok (.invokestatic 101, 3) := by decide +kernel
theorem dX7_isOutlet_6 : decode cX7_isOutlet 6 = .ok (.ireturn, 1) := by decide +kernel
set_option maxRecDepth 20000 in
theorem ggX7_isGroup_X7_in : GoodIn wsX7_isGroup wsX7_in := goodIn_r _ [4] (by decide +kernel) (by decide +kernel)
set_option maxRecDepth 20000 in
theorem gX7_isGroup_X7_in : GoodIn wsX7_isGroup (va_wsS RX7 101 yX7_in wsX7_in) := goodIn_app (goodIn_of _ (by decide +kernel)) ggX7_isGroup_X7_in
theorem dX7_isGroup_0 : decode cX7_isGroup 0 = .ok (.iload_n 0, 1) := by decide +kernel
theorem dX7_isGroup_1 : decode cX7_isGroup 1 = .ok (.iconst 0, 1) := by decide +kernel
theorem dX7_isGroup_2 : decode cX7_isGroup 2 = .ok (.iconst 3, 1) := by decide +kernel
theorem dX7_isGroup_3 : decode cX7_isGroup 3 = .ok (.invokestatic 101, 3) := by decide +kernel
theorem dX7_isGroup_6 : decode cX7_isGroup 6 = .ok (.ireturn, 1) := by decide +kernel
set_option maxRecDepth 20000 in
theorem ggX7_isPublished_X7_in : GoodIn wsX7_isPublished wsX7_in := goodIn_r _ [5] (by decide +kernel) (by decide +kernel)
set_option maxRecDepth 20000 in
theorem gX7_isPublished_X7_in : GoodIn wsX7_isPublished (va_wsS RX7 101 yX7_in wsX7_in) := goodIn_app (goodIn_of _ (by decide +kernel)) ggX7_isPublished_X7_in
theorem dX7_isPublished_0 : decode cX7_isPublished 0 = .ok (.iload_n 1, 1) := by decide +kernel
theorem dX7_isPublished_1 : decode cX7_isPublished 1 = .ok (.iconst 0, 1) := by decide +kernel
theorem dX7_isPublished_2 : decode cX7_isPublished 2 = .ok (.aload_n 0, 1) := by decide +kernel
theorem dX7_isPublished_3 : decode cX7_isPublished 3 = .ok (.getfield 105, 3) := by decide +kernel
theorem dX7_isPublished_6 : decode cX7_isPublished 6 = .ok (.iconst 1, 1) := by decide +kernel
theorem dX7_isPublished_7 : decode cX7_isPublished 7 = .ok (.isub, 1) := by decide +kernel
theorem dX7_isPublished_8 : decode cX7_isPublished 8 = .ok (.invokestatic 101, 3) := by decide +kernel
theorem dX7_isPublished_11 : decode cX7_isPublished 11 = .ok (.ireturn, 1) := by decide +kernel
theorem dX7_cell_0 : decode cX7_cell 0 = .ok (.bipush 48, 2) := by decide +kernel
theorem dX7_cell_2 : decode cX7_cell 2 = .ok (.iload_n 0, 1) := by decide +kernel
theorem dX7_cell_3 : decode cX7_cell 3 = .ok (.imul, 1) := by decide +kernel
theorem dX7_cell_4 : decode cX7_cell 4 = .ok (.iconst 4, 1) := by decide +kernel
theorem dX7_cell_5 : decode cX7_cell 5 = .ok (.iload_n 1, 1) := by decide +kernel
theorem dX7_cell_6 : decode cX7_cell 6 = .ok (.imul, 1) := by decide +kernel
theorem dX7_cell_7 : decode cX7_cell 7 = .ok (.iadd, 1) := by decide +kernel
theorem dX7_cell_8 : decode cX7_cell 8 = .ok (.iload_n 2, 1) := by decide +kernel
theorem dX7_cell_9 : decode cX7_cell 9 = .ok (.iadd, 1) := by decide +kernel
theorem dX7_cell_10 : decode cX7_cell 10 = .ok (.ireturn, 1) := by decide +kernel
set_option maxRecDepth 20000 in
theorem ggX7_item_X7_isGroup : GoodIn wsX7_item wsX7_isGroup := goodIn_r _ [9, 10, 11, 8, 12] (by decide +kernel) (by decide +kernel)
set_option maxRecDepth 20000 in
theorem gX7_item_X7_isGroup : GoodIn wsX7_item (va_wsS RX7 108 yX7_isGroup wsX7_isGroup) := goodIn_app (goodIn_of _ (by decide +kernel)) ggX7_item_X7_isGroup
set_option maxRecDepth 20000 in
theorem ggX7_item_X7_in : GoodIn wsX7_item wsX7_in := goodIn_r _ [12] (by decide +kernel) (by decide +kernel)
set_option maxRecDepth 20000 in
theorem gX7_item_X7_in : GoodIn wsX7_item (va_wsS RX7 101 yX7_in wsX7_in) := goodIn_app (goodIn_of _ (by decide +kernel)) ggX7_item_X7_in
theorem dX7_item_0 : decode cX7_item 0 = .ok (.aload_n 0, 1) := by decide +kernel
theorem dX7_item_1 : decode cX7_item 1 = .ok (.iload_n 1, 1) := by decide +kernel
theorem dX7_item_2 : decode cX7_item 2 = .ok (.invokestatic 108, 3) := by decide +kernel
theorem dX7_item_5 : decode cX7_item 5 = .ok (.ifCond .ne 7, 3) := by decide +kernel
theorem dX7_item_8 : decode cX7_item 8 = .ok (.iconst 1, 1) := by decide +kernel
theorem dX7_item_9 : decode cX7_item 9 = .ok (.goto 41, 3) := by decide +kernel
theorem dX7_item_12 : decode cX7_item 12 = .ok (.iload_n 2, 1) := by decide +kernel
theorem dX7_item_13 : decode cX7_item 13 = .ok (.iconst 0, 1) := by decide +kernel
theorem dX7_item_14 : decode cX7_item 14 = .ok (.iconst 2, 1) := by decide +kernel
theorem dX7_item_15 : decode cX7_item 15 = .ok (.invokestatic 101, 3) := by decide +kernel
theorem dX7_item_18 : decode cX7_item 18 = .ok (.ifCond .eq 14, 3) := by decide +kernel
theorem dX7_item_21 : decode cX7_item 21 = .ok (.iload_n 3, 1) := by decide +kernel
theorem dX7_item_22 : decode cX7_item 22 = .ok (.iconst 1, 1) := by decide +kernel
theorem dX7_item_23 : decode cX7_item 23 = .ok (.sipush 4095, 3) := by decide +kernel
theorem dX7_item_26 : decode cX7_item 26 = .ok (.invokestatic 101, 3) := by decide +kernel
theorem dX7_item_29 : decode cX7_item 29 = .ok (.ifCond .ne 7, 3) := by decide +kernel
theorem dX7_item_32 : decode cX7_item 32 = .ok (.iconst 2, 1) := by decide +kernel
theorem dX7_item_33 : decode cX7_item 33 = .ok (.goto 17, 3) := by decide +kernel
theorem dX7_item_36 : decode cX7_item 36 = .ok (.aload_n 0, 1) := by decide +kernel
theorem dX7_item_37 : decode cX7_item 37 = .ok (.getfield 98, 3) := by decide +kernel
theorem dX7_item_40 : decode cX7_item 40 = .ok (.bipush 12, 2) := by decide +kernel
theorem dX7_item_42 : decode cX7_item 42 = .ok (.if_icmp .ne 7, 3) := by decide +kernel
theorem dX7_item_45 : decode cX7_item 45 = .ok (.iconst 3, 1) := by decide +kernel
theorem dX7_item_46 : decode cX7_item 46 = .ok (.goto 4, 3) := by decide +kernel
theorem dX7_item_49 : decode cX7_item 49 = .ok (.iconst 0, 1) := by decide +kernel
theorem dX7_item_50 : decode cX7_item 50 = .ok (.putfield 94, 3) := by decide +kernel
theorem dX7_item_53 : decode cX7_item 53 = .ok (.aload_n 0, 1) := by decide +kernel
theorem dX7_item_54 : decode cX7_item 54 = .ok (.getfield 94, 3) := by decide +kernel
theorem dX7_item_57 : decode cX7_item 57 = .ok (.ifCond .le 5, 3) := by decide +kernel
theorem dX7_item_60 : decode cX7_item 60 = .ok (.iconst 0, 1) := by decide +kernel
theorem dX7_item_61 : decode cX7_item 61 = .ok (.ireturn, 1) := by decide +kernel
theorem dX7_item_62 : decode cX7_item 62 = .ok (.aload_n 0, 1) := by decide +kernel
theorem dX7_item_63 : decode cX7_item 63 = .ok (.getfield 7, 3) := by decide +kernel
theorem dX7_item_66 : decode cX7_item 66 = .ok (.aload_n 0, 1) := by decide +kernel
theorem dX7_item_67 : decode cX7_item 67 = .ok (.getfield 98, 3) := by decide +kernel
theorem dX7_item_70 : decode cX7_item 70 = .ok (.iload_n 1, 1) := by decide +kernel
theorem dX7_item_71 : decode cX7_item 71 = .ok (.iastore, 1) := by decide +kernel
theorem dX7_item_72 : decode cX7_item 72 = .ok (.aload_n 0, 1) := by decide +kernel
theorem dX7_item_73 : decode cX7_item 73 = .ok (.getfield 13, 3) := by decide +kernel
theorem dX7_item_76 : decode cX7_item 76 = .ok (.aload_n 0, 1) := by decide +kernel
theorem dX7_item_77 : decode cX7_item 77 = .ok (.getfield 98, 3) := by decide +kernel
theorem dX7_item_80 : decode cX7_item 80 = .ok (.iload_n 2, 1) := by decide +kernel
theorem dX7_item_81 : decode cX7_item 81 = .ok (.iastore, 1) := by decide +kernel
theorem dX7_item_82 : decode cX7_item 82 = .ok (.aload_n 0, 1) := by decide +kernel
theorem dX7_item_83 : decode cX7_item 83 = .ok (.getfield 16, 3) := by decide +kernel
theorem dX7_item_86 : decode cX7_item 86 = .ok (.aload_n 0, 1) := by decide +kernel
theorem dX7_item_87 : decode cX7_item 87 = .ok (.getfield 98, 3) := by decide +kernel
theorem dX7_item_90 : decode cX7_item 90 = .ok (.iload_n 3, 1) := by decide +kernel
theorem dX7_item_91 : decode cX7_item 91 = .ok (.iastore, 1) := by decide +kernel
theorem dX7_item_92 : decode cX7_item 92 = .ok (.aload_n 0, 1) := by decide +kernel
theorem dX7_item_93 : decode cX7_item 93 = .ok (.dup, 1) := by decide +kernel
theorem dX7_item_94 : decode cX7_item 94 = .ok (.getfield 98, 3) := by decide +kernel
theorem dX7_item_97 : decode cX7_item 97 = .ok (.iconst 1, 1) := by decide +kernel
theorem dX7_item_98 : decode cX7_item 98 = .ok (.iadd, 1) := by decide +kernel
theorem dX7_item_99 : decode cX7_item 99 = .ok (.putfield 98, 3) := by decide +kernel
theorem dX7_item_102 : decode cX7_item 102 = .ok (.aload_n 0, 1) := by decide +kernel
theorem dX7_item_103 : decode cX7_item 103 = .ok (.getfield 98, 3) := by decide +kernel
theorem dX7_item_106 : decode cX7_item 106 = .ok (.iconst 1, 1) := by decide +kernel
theorem dX7_item_107 : decode cX7_item 107 = .ok (.isub, 1) := by decide +kernel
theorem dX7_item_108 : decode cX7_item 108 = .ok (.ireturn, 1) := by decide +kernel
set_option maxRecDepth 20000 in
theorem ggX7_quote_X7_isItem : GoodIn wsX7_quote wsX7_isItem := goodIn_r _ [12, 13, 14, 15, 11, 16, 23, 24, 25, 26, 27, 28, 29, 30, 31, 32, 33, 34, 35, 36, 37, 38, 39, 40, 41, 42, 43, 44, 45, 46, 47, 48, 49, 50, 51, 52, 53, 54, 55] (by decide +kernel) (by decide +kernel)
set_option maxRecDepth 20000 in
theorem gX7_quote_X7_isItem : GoodIn wsX7_quote (wsV RX7 112 RX7 yX7_isItem wsX7_isItem) := goodIn_app (goodIn_of _ (by decide +kernel)) ggX7_quote_X7_isItem
set_option maxRecDepth 20000 in
theorem ggX7_quote_X7_isOutlet : GoodIn wsX7_quote wsX7_isOutlet := goodIn_r _ [19, 14, 15, 11, 16] (by decide +kernel) (by decide +kernel)
set_option maxRecDepth 20000 in
theorem gX7_quote_X7_isOutlet : GoodIn wsX7_quote (va_wsS RX7 115 yX7_isOutlet wsX7_isOutlet) := goodIn_app (goodIn_of _ (by decide +kernel)) ggX7_quote_X7_isOutlet
set_option maxRecDepth 20000 in
theorem ggX7_quote_X7_in : GoodIn wsX7_quote wsX7_in := goodIn_r _ [16] (by decide +kernel) (by decide +kernel)
set_option maxRecDepth 20000 in
theorem gX7_quote_X7_in : GoodIn wsX7_quote (va_wsS RX7 101 yX7_in wsX7_in) := goodIn_app (goodIn_of _ (by decide +kernel)) ggX7_quote_X7_in
set_option maxRecDepth 20000 in
theorem ggX7_quote_X7_cell : GoodIn wsX7_quote wsX7_cell := goodIn_r _ [22] (by decide +kernel) (by decide +kernel)
set_option maxRecDepth 20000 in
theorem gX7_quote_X7_cell : GoodIn wsX7_quote (va_wsS RX7 119 yX7_cell wsX7_cell) := goodIn_app (goodIn_of _ (by decide +kernel)) ggX7_quote_X7_cell
theorem dX7_quote_0 : decode cX7_quote 0 = .ok (.aload_n 0, 1) := by decide +kernel
theorem dX7_quote_1 : decode cX7_quote 1 = .ok (.aload_n 0, 1) := by decide +kernel
theorem dX7_quote_2 : decode cX7_quote 2 = .ok (.iload_n 1, 1) := by decide +kernel
theorem dX7_quote_3 : decode cX7_quote 3 = .ok (.invokevirtual 112, 3) := by decide +kernel
theorem dX7_quote_6 : decode cX7_quote 6 = .ok (.ifCond .eq 10, 3) := by decide +kernel
theorem dX7_quote_9 : decode cX7_quote 9 = .ok (.iload_n 2, 1) := by decide +kernel
theorem dX7_quote_10 : decode cX7_quote 10 = .ok (.invokestatic 115, 3) := by decide +kernel
theorem dX7_quote_13 : decode cX7_quote 13 = .ok (.ifCond .ne 7, 3) := by decide +kernel
theorem dX7_quote_16 : decode cX7_quote 16 = .ok (.iconst 1, 1) := by decide +kernel
theorem dX7_quote_17 : decode cX7_quote 17 = .ok (.goto 30, 3) := by decide +kernel
theorem dX7_quote_20 : decode cX7_quote 20 = .ok (.iload_n 3, 1) := by decide +kernel
theorem dX7_quote_21 : decode cX7_quote 21 = .ok (.iconst 1, 1) := by decide +kernel
theorem dX7_quote_22 : decode cX7_quote 22 = .ok (.ldc 118, 2) := by decide +kernel
theorem dX7_quote_24 : decode cX7_quote 24 = .ok (.invokestatic 101, 3) := by decide +kernel
theorem dX7_quote_27 : decode cX7_quote 27 = .ok (.ifCond .eq 15, 3) := by decide +kernel
theorem dX7_quote_30 : decode cX7_quote 30 = .ok (.iload 4, 2) := by decide +kernel
theorem dX7_quote_32 : decode cX7_quote 32 = .ok (.iconst 1, 1) := by decide +kernel
theorem dX7_quote_33 : decode cX7_quote 33 = .ok (.sipush 10000, 3) := by decide +kernel
theorem dX7_quote_36 : decode cX7_quote 36 = .ok (.invokestatic 101, 3) := by decide +kernel
theorem dX7_quote_39 : decode cX7_quote 39 = .ok (.ifCond .ne 7, 3) := by decide +kernel
theorem dX7_quote_42 : decode cX7_quote 42 = .ok (.iconst 2, 1) := by decide +kernel
theorem dX7_quote_43 : decode cX7_quote 43 = .ok (.goto 4, 3) := by decide +kernel
theorem dX7_quote_46 : decode cX7_quote 46 = .ok (.iconst 0, 1) := by decide +kernel
theorem dX7_quote_47 : decode cX7_quote 47 = .ok (.putfield 94, 3) := by decide +kernel
theorem dX7_quote_50 : decode cX7_quote 50 = .ok (.aload_n 0, 1) := by decide +kernel
theorem dX7_quote_51 : decode cX7_quote 51 = .ok (.aload_n 0, 1) := by decide +kernel
theorem dX7_quote_52 : decode cX7_quote 52 = .ok (.getfield 94, 3) := by decide +kernel
theorem dX7_quote_55 : decode cX7_quote 55 = .ok (.ifCond .ne 52, 3) := by decide +kernel
theorem dX7_quote_58 : decode cX7_quote 58 = .ok (.aload_n 0, 1) := by decide +kernel
theorem dX7_quote_59 : decode cX7_quote 59 = .ok (.getfield 105, 3) := by decide +kernel
theorem dX7_quote_62 : decode cX7_quote 62 = .ok (.bipush 24, 2) := by decide +kernel
theorem dX7_quote_64 : decode cX7_quote 64 = .ok (.if_icmp .eq 39, 3) := by decide +kernel
theorem dX7_quote_67 : decode cX7_quote 67 = .ok (.aload_n 0, 1) := by decide +kernel
theorem dX7_quote_68 : decode cX7_quote 68 = .ok (.getfield 16, 3) := by decide +kernel
theorem dX7_quote_71 : decode cX7_quote 71 = .ok (.iload_n 1, 1) := by decide +kernel
theorem dX7_quote_72 : decode cX7_quote 72 = .ok (.iaload, 1) := by decide +kernel
theorem dX7_quote_73 : decode cX7_quote 73 = .ok (.aload_n 0, 1) := by decide +kernel
theorem dX7_quote_74 : decode cX7_quote 74 = .ok (.getfield 105, 3) := by decide +kernel
theorem dX7_quote_77 : decode cX7_quote 77 = .ok (.bipush 12, 2) := by decide +kernel
theorem dX7_quote_79 : decode cX7_quote 79 = .ok (.irem, 1) := by decide +kernel
theorem dX7_quote_80 : decode cX7_quote 80 = .ok (.ishr, 1) := by decide +kernel
theorem dX7_quote_81 : decode cX7_quote 81 = .ok (.iconst 1, 1) := by decide +kernel
theorem dX7_quote_82 : decode cX7_quote 82 = .ok (.iand, 1) := by decide +kernel
theorem dX7_quote_83 : decode cX7_quote 83 = .ok (.ifCond .eq 20, 3) := by decide +kernel
theorem dX7_quote_86 : decode cX7_quote 86 = .ok (.aload_n 0, 1) := by decide +kernel
theorem dX7_quote_87 : decode cX7_quote 87 = .ok (.getfield 19, 3) := by decide +kernel
theorem dX7_quote_90 : decode cX7_quote 90 = .ok (.aload_n 0, 1) := by decide +kernel
theorem dX7_quote_91 : decode cX7_quote 91 = .ok (.getfield 105, 3) := by decide +kernel
theorem dX7_quote_94 : decode cX7_quote 94 = .ok (.iload_n 1, 1) := by decide +kernel
theorem dX7_quote_95 : decode cX7_quote 95 = .ok (.iload_n 2, 1) := by decide +kernel
theorem dX7_quote_96 : decode cX7_quote 96 = .ok (.invokestatic 119, 3) := by decide +kernel
theorem dX7_quote_99 : decode cX7_quote 99 = .ok (.iaload, 1) := by decide +kernel
theorem dX7_quote_100 : decode cX7_quote 100 = .ok (.ifCond .le 7, 3) := by decide +kernel
theorem dX7_quote_103 : decode cX7_quote 103 = .ok (.iconst 3, 1) := by decide +kernel
theorem dX7_quote_104 : decode cX7_quote 104 = .ok (.goto 7, 3) := by decide +kernel
theorem dX7_quote_107 : decode cX7_quote 107 = .ok (.aload_n 0, 1) := by decide +kernel
theorem dX7_quote_108 : decode cX7_quote 108 = .ok (.getfield 94, 3) := by decide +kernel
theorem dX7_quote_111 : decode cX7_quote 111 = .ok (.putfield 94, 3) := by decide +kernel
theorem dX7_quote_114 : decode cX7_quote 114 = .ok (.aload_n 0, 1) := by decide +kernel
theorem dX7_quote_115 : decode cX7_quote 115 = .ok (.getfield 94, 3) := by decide +kernel
theorem dX7_quote_118 : decode cX7_quote 118 = .ok (.ifCond .le 5, 3) := by decide +kernel
theorem dX7_quote_121 : decode cX7_quote 121 = .ok (.iconst 0, 1) := by decide +kernel
theorem dX7_quote_122 : decode cX7_quote 122 = .ok (.ireturn, 1) := by decide +kernel
theorem dX7_quote_123 : decode cX7_quote 123 = .ok (.aload_n 0, 1) := by decide +kernel
theorem dX7_quote_124 : decode cX7_quote 124 = .ok (.getfield 19, 3) := by decide +kernel
theorem dX7_quote_127 : decode cX7_quote 127 = .ok (.aload_n 0, 1) := by decide +kernel
theorem dX7_quote_128 : decode cX7_quote 128 = .ok (.getfield 105, 3) := by decide +kernel
theorem dX7_quote_131 : decode cX7_quote 131 = .ok (.iload_n 1, 1) := by decide +kernel
theorem dX7_quote_132 : decode cX7_quote 132 = .ok (.iload_n 2, 1) := by decide +kernel
theorem dX7_quote_133 : decode cX7_quote 133 = .ok (.invokestatic 119, 3) := by decide +kernel
theorem dX7_quote_136 : decode cX7_quote 136 = .ok (.iload_n 3, 1) := by decide +kernel
theorem dX7_quote_137 : decode cX7_quote 137 = .ok (.iastore, 1) := by decide +kernel
theorem dX7_quote_138 : decode cX7_quote 138 = .ok (.aload_n 0, 1) := by decide +kernel
theorem dX7_quote_139 : decode cX7_quote 139 = .ok (.getfield 22, 3) := by decide +kernel
theorem dX7_quote_142 : decode cX7_quote 142 = .ok (.aload_n 0, 1) := by decide +kernel
theorem dX7_quote_143 : decode cX7_quote 143 = .ok (.getfield 105, 3) := by decide +kernel
theorem dX7_quote_146 : decode cX7_quote 146 = .ok (.iload_n 1, 1) := by decide +kernel
theorem dX7_quote_147 : decode cX7_quote 147 = .ok (.iload_n 2, 1) := by decide +kernel
theorem dX7_quote_148 : decode cX7_quote 148 = .ok (.invokestatic 119, 3) := by decide +kernel
theorem dX7_quote_151 : decode cX7_quote 151 = .ok (.iload 4, 2) := by decide +kernel
theorem dX7_quote_153 : decode cX7_quote 153 = .ok (.iastore, 1) := by decide +kernel
theorem dX7_quote_154 : decode cX7_quote 154 = .ok (.aload_n 0, 1) := by decide +kernel
theorem dX7_quote_155 : decode cX7_quote 155 = .ok (.dup, 1) := by decide +kernel
theorem dX7_quote_156 : decode cX7_quote 156 = .ok (.getfield 123, 3) := by decide +kernel
theorem dX7_quote_159 : decode cX7_quote 159 = .ok (.iconst 1, 1) := by decide +kernel
theorem dX7_quote_160 : decode cX7_quote 160 = .ok (.iadd, 1) := by decide +kernel
theorem dX7_quote_161 : decode cX7_quote 161 = .ok (.putfield 123, 3) := by decide +kernel
theorem dX7_quote_164 : decode cX7_quote 164 = .ok (.aload_n 0, 1) := by decide +kernel
theorem dX7_quote_165 : decode cX7_quote 165 = .ok (.getfield 123, 3) := by decide +kernel
theorem dX7_quote_168 : decode cX7_quote 168 = .ok (.ireturn, 1) := by decide +kernel
set_option maxRecDepth 20000 in
theorem ggX7_confirm_X7_isItem : GoodIn wsX7_confirm wsX7_isItem := goodIn_r _ [9, 10, 11, 12, 8, 13, 20, 21, 22, 23, 24, 25, 26, 27, 28, 29, 30, 31, 32, 33, 34, 35, 36, 37, 38, 39, 40, 41, 42, 43, 44, 45, 46, 47, 48, 49, 50, 51, 52] (by decide +kernel) (by decide +kernel)
set_option maxRecDepth 20000 in
theorem gX7_confirm_X7_isItem : GoodIn wsX7_confirm (wsV RX7 112 RX7 yX7_isItem wsX7_isItem) := goodIn_app (goodIn_of _ (by decide +kernel)) ggX7_confirm_X7_isItem
set_option maxRecDepth 20000 in
theorem ggX7_confirm_X7_isOutlet : GoodIn wsX7_confirm wsX7_isOutlet := goodIn_r _ [16, 11, 12, 8, 13] (by decide +kernel) (by decide +kernel)
set_option maxRecDepth 20000 in
theorem gX7_confirm_X7_isOutlet : GoodIn wsX7_confirm (va_wsS RX7 115 yX7_isOutlet wsX7_isOutlet) := goodIn_app (goodIn_of _ (by decide +kernel)) ggX7_confirm_X7_isOutlet
set_option maxRecDepth 20000 in
theorem ggX7_confirm_X7_cell : GoodIn wsX7_confirm wsX7_cell := goodIn_r _ [19] (by decide +kernel) (by decide +kernel)
set_option maxRecDepth 20000 in
theorem gX7_confirm_X7_cell : GoodIn wsX7_confirm (va_wsS RX7 119 yX7_cell wsX7_cell) := goodIn_app (goodIn_of _ (by decide +kernel)) ggX7_confirm_X7_cell
theorem dX7_confirm_0 : decode cX7_confirm 0 = .ok (.aload_n 0, 1) := by decide +kernel
theorem dX7_confirm_1 : decode cX7_confirm 1 = .ok (.aload_n 0, 1) := by decide +kernel
theorem dX7_confirm_2 : decode cX7_confirm 2 = .ok (.iload_n 1, 1) := by decide +kernel
theorem dX7_confirm_3 : decode cX7_confirm 3 = .ok (.invokevirtual 112, 3) := by decide +kernel
theorem dX7_confirm_6 : decode cX7_confirm 6 = .ok (.ifCond .eq 10, 3) := by decide +kernel
theorem dX7_confirm_9 : decode cX7_confirm 9 = .ok (.iload_n 2, 1) := by decide +kernel
theorem dX7_confirm_10 : decode cX7_confirm 10 = .ok (.invokestatic 115, 3) := by decide +kernel
theorem dX7_confirm_13 : decode cX7_confirm 13 = .ok (.ifCond .ne 7, 3) := by decide +kernel
theorem dX7_confirm_16 : decode cX7_confirm 16 = .ok (.iconst 1, 1) := by decide +kernel
theorem dX7_confirm_17 : decode cX7_confirm 17 = .ok (.goto 34, 3) := by decide +kernel
theorem dX7_confirm_20 : decode cX7_confirm 20 = .ok (.aload_n 0, 1) := by decide +kernel
theorem dX7_confirm_21 : decode cX7_confirm 21 = .ok (.getfield 105, 3) := by decide +kernel
theorem dX7_confirm_24 : decode cX7_confirm 24 = .ok (.bipush 24, 2) := by decide +kernel
theorem dX7_confirm_26 : decode cX7_confirm 26 = .ok (.if_icmp .eq 20, 3) := by decide +kernel
theorem dX7_confirm_29 : decode cX7_confirm 29 = .ok (.aload_n 0, 1) := by decide +kernel
theorem dX7_confirm_30 : decode cX7_confirm 30 = .ok (.getfield 19, 3) := by decide +kernel
theorem dX7_confirm_33 : decode cX7_confirm 33 = .ok (.aload_n 0, 1) := by decide +kernel
theorem dX7_confirm_34 : decode cX7_confirm 34 = .ok (.getfield 105, 3) := by decide +kernel
theorem dX7_confirm_37 : decode cX7_confirm 37 = .ok (.iload_n 1, 1) := by decide +kernel
theorem dX7_confirm_38 : decode cX7_confirm 38 = .ok (.iload_n 2, 1) := by decide +kernel
theorem dX7_confirm_39 : decode cX7_confirm 39 = .ok (.invokestatic 119, 3) := by decide +kernel
theorem dX7_confirm_42 : decode cX7_confirm 42 = .ok (.iaload, 1) := by decide +kernel
theorem dX7_confirm_43 : decode cX7_confirm 43 = .ok (.ifCond .ne 7, 3) := by decide +kernel
theorem dX7_confirm_46 : decode cX7_confirm 46 = .ok (.iconst 2, 1) := by decide +kernel
theorem dX7_confirm_47 : decode cX7_confirm 47 = .ok (.goto 4, 3) := by decide +kernel
theorem dX7_confirm_50 : decode cX7_confirm 50 = .ok (.iconst 0, 1) := by decide +kernel
theorem dX7_confirm_51 : decode cX7_confirm 51 = .ok (.putfield 94, 3) := by decide +kernel
theorem dX7_confirm_54 : decode cX7_confirm 54 = .ok (.aload_n 0, 1) := by decide +kernel
theorem dX7_confirm_55 : decode cX7_confirm 55 = .ok (.getfield 94, 3) := by decide +kernel
theorem dX7_confirm_58 : decode cX7_confirm 58 = .ok (.ifCond .le 5, 3) := by decide +kernel
theorem dX7_confirm_61 : decode cX7_confirm 61 = .ok (.iconst 0, 1) := by decide +kernel
theorem dX7_confirm_62 : decode cX7_confirm 62 = .ok (.ireturn, 1) := by decide +kernel
theorem dX7_confirm_63 : decode cX7_confirm 63 = .ok (.aload_n 0, 1) := by decide +kernel
theorem dX7_confirm_64 : decode cX7_confirm 64 = .ok (.getfield 28, 3) := by decide +kernel
theorem dX7_confirm_67 : decode cX7_confirm 67 = .ok (.aload_n 0, 1) := by decide +kernel
theorem dX7_confirm_68 : decode cX7_confirm 68 = .ok (.getfield 105, 3) := by decide +kernel
theorem dX7_confirm_71 : decode cX7_confirm 71 = .ok (.iload_n 1, 1) := by decide +kernel
theorem dX7_confirm_72 : decode cX7_confirm 72 = .ok (.iload_n 2, 1) := by decide +kernel
theorem dX7_confirm_73 : decode cX7_confirm 73 = .ok (.invokestatic 119, 3) := by decide +kernel
theorem dX7_confirm_76 : decode cX7_confirm 76 = .ok (.baload, 1) := by decide +kernel
theorem dX7_confirm_77 : decode cX7_confirm 77 = .ok (.istore_n 3, 1) := by decide +kernel
theorem dX7_confirm_78 : decode cX7_confirm 78 = .ok (.aload_n 0, 1) := by decide +kernel
theorem dX7_confirm_79 : decode cX7_confirm 79 = .ok (.getfield 28, 3) := by decide +kernel
theorem dX7_confirm_82 : decode cX7_confirm 82 = .ok (.aload_n 0, 1) := by decide +kernel
theorem dX7_confirm_83 : decode cX7_confirm 83 = .ok (.getfield 105, 3) := by decide +kernel
theorem dX7_confirm_86 : decode cX7_confirm 86 = .ok (.iload_n 1, 1) := by decide +kernel
theorem dX7_confirm_87 : decode cX7_confirm 87 = .ok (.iload_n 2, 1) := by decide +kernel
theorem dX7_confirm_88 : decode cX7_confirm 88 = .ok (.invokestatic 119, 3) := by decide +kernel
theorem dX7_confirm_91 : decode cX7_confirm 91 = .ok (.iconst 1, 1) := by decide +kernel
theorem dX7_confirm_92 : decode cX7_confirm 92 = .ok (.bastore, 1) := by decide +kernel
theorem dX7_confirm_93 : decode cX7_confirm 93 = .ok (.iload_n 3, 1) := by decide +kernel
theorem dX7_confirm_94 : decode cX7_confirm 94 = .ok (.ireturn, 1) := by decide +kernel
set_option maxRecDepth 20000 in
theorem ggX7_link_X7_isItem : GoodIn wsX7_link wsX7_isItem := goodIn_r _ [10, 11, 12, 13, 9, 14, 21, 22, 23, 24, 25, 26, 27, 28, 29, 30, 31, 32, 33, 34, 35, 36, 37, 38, 39, 40, 41, 42, 43, 44, 45, 46, 47, 48, 49, 50, 51, 52, 53] (by decide +kernel) (by decide +kernel)
set_option maxRecDepth 20000 in
theorem gX7_link_X7_isItem : GoodIn wsX7_link (wsV RX7 112 RX7 yX7_isItem wsX7_isItem) := goodIn_app (goodIn_of _ (by decide +kernel)) ggX7_link_X7_isItem
set_option maxRecDepth 20000 in
theorem ggX7_link_X7_isOutlet : GoodIn wsX7_link wsX7_isOutlet := goodIn_r _ [17, 12, 13, 9, 14] (by decide +kernel) (by decide +kernel)
set_option maxRecDepth 20000 in
theorem gX7_link_X7_isOutlet : GoodIn wsX7_link (va_wsS RX7 115 yX7_isOutlet wsX7_isOutlet) := goodIn_app (goodIn_of _ (by decide +kernel)) ggX7_link_X7_isOutlet
set_option maxRecDepth 20000 in
theorem ggX7_link_X7_in : GoodIn wsX7_link wsX7_in := goodIn_r _ [14] (by decide +kernel) (by decide +kernel)
set_option maxRecDepth 20000 in
theorem gX7_link_X7_in : GoodIn wsX7_link (va_wsS RX7 101 yX7_in wsX7_in) := goodIn_app (goodIn_of _ (by decide +kernel)) ggX7_link_X7_in
set_option maxRecDepth 20000 in
theorem ggX7_link_X7_cell : GoodIn wsX7_link wsX7_cell := goodIn_r _ [20] (by decide +kernel) (by decide +kernel)
set_option maxRecDepth 20000 in
theorem gX7_link_X7_cell : GoodIn wsX7_link (va_wsS RX7 119 yX7_cell wsX7_cell) := goodIn_app (goodIn_of _ (by decide +kernel)) ggX7_link_X7_cell
theorem dX7_link_0 : decode cX7_link 0 = .ok (.aload_n 0, 1) := by decide +kernel
theorem dX7_link_1 : decode cX7_link 1 = .ok (.aload_n 0, 1) := by decide +kernel
theorem dX7_link_2 : decode cX7_link 2 = .ok (.iload_n 1, 1) := by decide +kernel
theorem dX7_link_3 : decode cX7_link 3 = .ok (.invokevirtual 112, 3) := by decide +kernel
theorem dX7_link_6 : decode cX7_link 6 = .ok (.ifCond .eq 10, 3) := by decide +kernel
theorem dX7_link_9 : decode cX7_link 9 = .ok (.iload_n 2, 1) := by decide +kernel
theorem dX7_link_10 : decode cX7_link 10 = .ok (.invokestatic 115, 3) := by decide +kernel
theorem dX7_link_13 : decode cX7_link 13 = .ok (.ifCond .ne 7, 3) := by decide +kernel
theorem dX7_link_16 : decode cX7_link 16 = .ok (.iconst 1, 1) := by decide +kernel
theorem dX7_link_17 : decode cX7_link 17 = .ok (.goto 30, 3) := by decide +kernel
theorem dX7_link_20 : decode cX7_link 20 = .ok (.iload_n 3, 1) := by decide +kernel
theorem dX7_link_21 : decode cX7_link 21 = .ok (.iconst 1, 1) := by decide +kernel
theorem dX7_link_22 : decode cX7_link 22 = .ok (.ldc 118, 2) := by decide +kernel
theorem dX7_link_24 : decode cX7_link 24 = .ok (.invokestatic 101, 3) := by decide +kernel
theorem dX7_link_27 : decode cX7_link 27 = .ok (.ifCond .eq 15, 3) := by decide +kernel
theorem dX7_link_30 : decode cX7_link 30 = .ok (.iload 4, 2) := by decide +kernel
theorem dX7_link_32 : decode cX7_link 32 = .ok (.iconst 1, 1) := by decide +kernel
theorem dX7_link_33 : decode cX7_link 33 = .ok (.sipush 10000, 3) := by decide +kernel
theorem dX7_link_36 : decode cX7_link 36 = .ok (.invokestatic 101, 3) := by decide +kernel
theorem dX7_link_39 : decode cX7_link 39 = .ok (.ifCond .ne 7, 3) := by decide +kernel
theorem dX7_link_42 : decode cX7_link 42 = .ok (.iconst 2, 1) := by decide +kernel
theorem dX7_link_43 : decode cX7_link 43 = .ok (.goto 4, 3) := by decide +kernel
theorem dX7_link_46 : decode cX7_link 46 = .ok (.iconst 0, 1) := by decide +kernel
theorem dX7_link_47 : decode cX7_link 47 = .ok (.putfield 94, 3) := by decide +kernel
theorem dX7_link_50 : decode cX7_link 50 = .ok (.aload_n 0, 1) := by decide +kernel
theorem dX7_link_51 : decode cX7_link 51 = .ok (.aload_n 0, 1) := by decide +kernel
theorem dX7_link_52 : decode cX7_link 52 = .ok (.getfield 94, 3) := by decide +kernel
theorem dX7_link_55 : decode cX7_link 55 = .ok (.ifCond .ne 33, 3) := by decide +kernel
theorem dX7_link_58 : decode cX7_link 58 = .ok (.aload_n 0, 1) := by decide +kernel
theorem dX7_link_59 : decode cX7_link 59 = .ok (.getfield 105, 3) := by decide +kernel
theorem dX7_link_62 : decode cX7_link 62 = .ok (.bipush 24, 2) := by decide +kernel
theorem dX7_link_64 : decode cX7_link 64 = .ok (.if_icmp .eq 20, 3) := by decide +kernel
theorem dX7_link_67 : decode cX7_link 67 = .ok (.aload_n 0, 1) := by decide +kernel
theorem dX7_link_68 : decode cX7_link 68 = .ok (.getfield 32, 3) := by decide +kernel
theorem dX7_link_71 : decode cX7_link 71 = .ok (.aload_n 0, 1) := by decide +kernel
theorem dX7_link_72 : decode cX7_link 72 = .ok (.getfield 105, 3) := by decide +kernel
theorem dX7_link_75 : decode cX7_link 75 = .ok (.iload_n 1, 1) := by decide +kernel
theorem dX7_link_76 : decode cX7_link 76 = .ok (.iload_n 2, 1) := by decide +kernel
theorem dX7_link_77 : decode cX7_link 77 = .ok (.invokestatic 119, 3) := by decide +kernel
theorem dX7_link_80 : decode cX7_link 80 = .ok (.iaload, 1) := by decide +kernel
theorem dX7_link_81 : decode cX7_link 81 = .ok (.ifCond .le 7, 3) := by decide +kernel
theorem dX7_link_84 : decode cX7_link 84 = .ok (.iconst 3, 1) := by decide +kernel
theorem dX7_link_85 : decode cX7_link 85 = .ok (.goto 7, 3) := by decide +kernel
theorem dX7_link_88 : decode cX7_link 88 = .ok (.aload_n 0, 1) := by decide +kernel
theorem dX7_link_89 : decode cX7_link 89 = .ok (.getfield 94, 3) := by decide +kernel
theorem dX7_link_92 : decode cX7_link 92 = .ok (.putfield 94, 3) := by decide +kernel
theorem dX7_link_95 : decode cX7_link 95 = .ok (.aload_n 0, 1) := by decide +kernel
theorem dX7_link_96 : decode cX7_link 96 = .ok (.getfield 94, 3) := by decide +kernel
theorem dX7_link_99 : decode cX7_link 99 = .ok (.ifCond .ne 34, 3) := by decide +kernel
theorem dX7_link_102 : decode cX7_link 102 = .ok (.aload_n 0, 1) := by decide +kernel
theorem dX7_link_103 : decode cX7_link 103 = .ok (.getfield 32, 3) := by decide +kernel
theorem dX7_link_106 : decode cX7_link 106 = .ok (.aload_n 0, 1) := by decide +kernel
theorem dX7_link_107 : decode cX7_link 107 = .ok (.getfield 105, 3) := by decide +kernel
theorem dX7_link_110 : decode cX7_link 110 = .ok (.iload_n 1, 1) := by decide +kernel
theorem dX7_link_111 : decode cX7_link 111 = .ok (.iload_n 2, 1) := by decide +kernel
theorem dX7_link_112 : decode cX7_link 112 = .ok (.invokestatic 119, 3) := by decide +kernel
theorem dX7_link_115 : decode cX7_link 115 = .ok (.iload_n 3, 1) := by decide +kernel
theorem dX7_link_116 : decode cX7_link 116 = .ok (.iastore, 1) := by decide +kernel
theorem dX7_link_117 : decode cX7_link 117 = .ok (.aload_n 0, 1) := by decide +kernel
theorem dX7_link_118 : decode cX7_link 118 = .ok (.getfield 35, 3) := by decide +kernel
theorem dX7_link_121 : decode cX7_link 121 = .ok (.aload_n 0, 1) := by decide +kernel
theorem dX7_link_122 : decode cX7_link 122 = .ok (.getfield 105, 3) := by decide +kernel
theorem dX7_link_125 : decode cX7_link 125 = .ok (.iload_n 1, 1) := by decide +kernel
theorem dX7_link_126 : decode cX7_link 126 = .ok (.iload_n 2, 1) := by decide +kernel
theorem dX7_link_127 : decode cX7_link 127 = .ok (.invokestatic 119, 3) := by decide +kernel
theorem dX7_link_130 : decode cX7_link 130 = .ok (.iload 4, 2) := by decide +kernel
theorem dX7_link_132 : decode cX7_link 132 = .ok (.iastore, 1) := by decide +kernel
theorem dX7_link_133 : decode cX7_link 133 = .ok (.return_, 1) := by decide +kernel
set_option maxRecDepth 20000 in
theorem ggX7_spend_X7_in : GoodIn wsX7_spend wsX7_in := goodIn_r _ [7] (by decide +kernel) (by decide +kernel)
set_option maxRecDepth 20000 in
theorem gX7_spend_X7_in : GoodIn wsX7_spend (va_wsS RX7 101 yX7_in wsX7_in) := goodIn_app (goodIn_of _ (by decide +kernel)) ggX7_spend_X7_in
set_option maxRecDepth 20000 in
theorem ggX7_spend_X7_isGroup : GoodIn wsX7_spend wsX7_isGroup := goodIn_r _ [10, 4, 5, 6, 7] (by decide +kernel) (by decide +kernel)
set_option maxRecDepth 20000 in
theorem gX7_spend_X7_isGroup : GoodIn wsX7_spend (va_wsS RX7 108 yX7_isGroup wsX7_isGroup) := goodIn_app (goodIn_of _ (by decide +kernel)) ggX7_spend_X7_isGroup
theorem dX7_spend_0 : decode cX7_spend 0 = .ok (.aload_n 0, 1) := by decide +kernel
theorem dX7_spend_1 : decode cX7_spend 1 = .ok (.iload_n 1, 1) := by decide +kernel
theorem dX7_spend_2 : decode cX7_spend 2 = .ok (.iconst 0, 1) := by decide +kernel
theorem dX7_spend_3 : decode cX7_spend 3 = .ok (.iconst 2, 1) := by decide +kernel
theorem dX7_spend_4 : decode cX7_spend 4 = .ok (.invokestatic 101, 3) := by decide +kernel
theorem dX7_spend_7 : decode cX7_spend 7 = .ok (.ifCond .eq 10, 3) := by decide +kernel
theorem dX7_spend_10 : decode cX7_spend 10 = .ok (.iload_n 2, 1) := by decide +kernel
theorem dX7_spend_11 : decode cX7_spend 11 = .ok (.invokestatic 108, 3) := by decide +kernel
theorem dX7_spend_14 : decode cX7_spend 14 = .ok (.ifCond .ne 7, 3) := by decide +kernel
theorem dX7_spend_17 : decode cX7_spend 17 = .ok (.iconst 1, 1) := by decide +kernel
theorem dX7_spend_18 : decode cX7_spend 18 = .ok (.goto 18, 3) := by decide +kernel
theorem dX7_spend_21 : decode cX7_spend 21 = .ok (.iload_n 3, 1) := by decide +kernel
theorem dX7_spend_22 : decode cX7_spend 22 = .ok (.iconst 0, 1) := by decide +kernel
theorem dX7_spend_23 : decode cX7_spend 23 = .ok (.ldc 126, 2) := by decide +kernel
theorem dX7_spend_25 : decode cX7_spend 25 = .ok (.invokestatic 101, 3) := by decide +kernel
theorem dX7_spend_28 : decode cX7_spend 28 = .ok (.ifCond .ne 7, 3) := by decide +kernel
theorem dX7_spend_31 : decode cX7_spend 31 = .ok (.iconst 2, 1) := by decide +kernel
theorem dX7_spend_32 : decode cX7_spend 32 = .ok (.goto 4, 3) := by decide +kernel
theorem dX7_spend_35 : decode cX7_spend 35 = .ok (.iconst 0, 1) := by decide +kernel
theorem dX7_spend_36 : decode cX7_spend 36 = .ok (.putfield 94, 3) := by decide +kernel
theorem dX7_spend_39 : decode cX7_spend 39 = .ok (.aload_n 0, 1) := by decide +kernel
theorem dX7_spend_40 : decode cX7_spend 40 = .ok (.getfield 94, 3) := by decide +kernel
theorem dX7_spend_43 : decode cX7_spend 43 = .ok (.ifCond .le 5, 3) := by decide +kernel
theorem dX7_spend_46 : decode cX7_spend 46 = .ok (.iconst 0, 1) := by decide +kernel
theorem dX7_spend_47 : decode cX7_spend 47 = .ok (.ireturn, 1) := by decide +kernel
theorem dX7_spend_48 : decode cX7_spend 48 = .ok (.aload_n 0, 1) := by decide +kernel
theorem dX7_spend_49 : decode cX7_spend 49 = .ok (.getfield 38, 3) := by decide +kernel
theorem dX7_spend_52 : decode cX7_spend 52 = .ok (.iconst 4, 1) := by decide +kernel
theorem dX7_spend_53 : decode cX7_spend 53 = .ok (.iload_n 1, 1) := by decide +kernel
theorem dX7_spend_54 : decode cX7_spend 54 = .ok (.imul, 1) := by decide +kernel
theorem dX7_spend_55 : decode cX7_spend 55 = .ok (.iload_n 2, 1) := by decide +kernel
theorem dX7_spend_56 : decode cX7_spend 56 = .ok (.iadd, 1) := by decide +kernel
theorem dX7_spend_57 : decode cX7_spend 57 = .ok (.iaload, 1) := by decide +kernel
theorem dX7_spend_58 : decode cX7_spend 58 = .ok (.istore 4, 2) := by decide +kernel
theorem dX7_spend_60 : decode cX7_spend 60 = .ok (.aload_n 0, 1) := by decide +kernel
theorem dX7_spend_61 : decode cX7_spend 61 = .ok (.getfield 38, 3) := by decide +kernel
theorem dX7_spend_64 : decode cX7_spend 64 = .ok (.iconst 4, 1) := by decide +kernel
theorem dX7_spend_65 : decode cX7_spend 65 = .ok (.iload_n 1, 1) := by decide +kernel
theorem dX7_spend_66 : decode cX7_spend 66 = .ok (.imul, 1) := by decide +kernel
theorem dX7_spend_67 : decode cX7_spend 67 = .ok (.iload_n 2, 1) := by decide +kernel
theorem dX7_spend_68 : decode cX7_spend 68 = .ok (.iadd, 1) := by decide +kernel
theorem dX7_spend_69 : decode cX7_spend 69 = .ok (.iload_n 3, 1) := by decide +kernel
theorem dX7_spend_70 : decode cX7_spend 70 = .ok (.iastore, 1) := by decide +kernel
theorem dX7_spend_71 : decode cX7_spend 71 = .ok (.iload 4, 2) := by decide +kernel
theorem dX7_spend_73 : decode cX7_spend 73 = .ok (.ireturn, 1) := by decide +kernel
theorem dX7_adopt_0 : decode cX7_adopt 0 = .ok (.aload_n 0, 1) := by decide +kernel
theorem dX7_adopt_1 : decode cX7_adopt 1 = .ok (.iconst 0, 1) := by decide +kernel
theorem dX7_adopt_2 : decode cX7_adopt 2 = .ok (.putfield 94, 3) := by decide +kernel
theorem dX7_adopt_5 : decode cX7_adopt 5 = .ok (.lconst 0, 1) := by decide +kernel
theorem dX7_adopt_6 : decode cX7_adopt 6 = .ok (.lstore_n 1, 1) := by decide +kernel
theorem dX7_adopt_7 : decode cX7_adopt 7 = .ok (.iconst 0, 1) := by decide +kernel
theorem dX7_adopt_8 : decode cX7_adopt 8 = .ok (.istore_n 3, 1) := by decide +kernel
theorem dX7_adopt_9 : decode cX7_adopt 9 = .ok (.iload_n 3, 1) := by decide +kernel
theorem dX7_adopt_10 : decode cX7_adopt 10 = .ok (.bipush 12, 2) := by decide +kernel
theorem dX7_adopt_12 : decode cX7_adopt 12 = .ok (.if_icmp .ge 31, 3) := by decide +kernel
theorem dX7_adopt_15 : decode cX7_adopt 15 = .ok (.aload_n 0, 1) := by decide +kernel
theorem dX7_adopt_16 : decode cX7_adopt 16 = .ok (.getfield 41, 3) := by decide +kernel
theorem dX7_adopt_19 : decode cX7_adopt 19 = .ok (.iload_n 3, 1) := by decide +kernel
theorem dX7_adopt_20 : decode cX7_adopt 20 = .ok (.aload_n 0, 1) := by decide +kernel
theorem dX7_adopt_21 : decode cX7_adopt 21 = .ok (.getfield 38, 3) := by decide +kernel
theorem dX7_adopt_24 : decode cX7_adopt 24 = .ok (.iload_n 3, 1) := by decide +kernel
theorem dX7_adopt_25 : decode cX7_adopt 25 = .ok (.iaload, 1) := by decide +kernel
theorem dX7_adopt_26 : decode cX7_adopt 26 = .ok (.iastore, 1) := by decide +kernel
theorem dX7_adopt_27 : decode cX7_adopt 27 = .ok (.lload_n 1, 1) := by decide +kernel
theorem dX7_adopt_28 : decode cX7_adopt 28 = .ok (.aload_n 0, 1) := by decide +kernel
theorem dX7_adopt_29 : decode cX7_adopt 29 = .ok (.getfield 38, 3) := by decide +kernel
theorem dX7_adopt_32 : decode cX7_adopt 32 = .ok (.iload_n 3, 1) := by decide +kernel
theorem dX7_adopt_33 : decode cX7_adopt 33 = .ok (.iaload, 1) := by decide +kernel
theorem dX7_adopt_34 : decode cX7_adopt 34 = .ok (.i2l, 1) := by decide +kernel
theorem dX7_adopt_35 : decode cX7_adopt 35 = .ok (.ladd, 1) := by decide +kernel
theorem dX7_adopt_36 : decode cX7_adopt 36 = .ok (.lstore_n 1, 1) := by decide +kernel
theorem dX7_adopt_37 : decode cX7_adopt 37 = .ok (.iinc 3 1, 3) := by decide +kernel
theorem dX7_adopt_40 : decode cX7_adopt 40 = .ok (.goto (-31), 3) := by decide +kernel
theorem dX7_adopt_43 : decode cX7_adopt 43 = .ok (.lload_n 1, 1) := by decide +kernel
theorem dX7_adopt_44 : decode cX7_adopt 44 = .ok (.lreturn, 1) := by decide +kernel
theorem dX7_rate_0 : decode cX7_rate 0 = .ok (.iload_n 2, 1) := by decide +kernel
theorem dX7_rate_1 : decode cX7_rate 1 = .ok (.iconst 1, 1) := by decide +kernel
theorem dX7_rate_2 : decode cX7_rate 2 = .ok (.if_icmp .ne 21, 3) := by decide +kernel
theorem dX7_rate_5 : decode cX7_rate 5 = .ok (.aload_n 0, 1) := by decide +kernel
theorem dX7_rate_6 : decode cX7_rate 6 = .ok (.getfield 25, 3) := by decide +kernel
theorem dX7_rate_9 : decode cX7_rate 9 = .ok (.iload_n 1, 1) := by decide +kernel
theorem dX7_rate_10 : decode cX7_rate 10 = .ok (.iaload, 1) := by decide +kernel
theorem dX7_rate_11 : decode cX7_rate 11 = .ok (.ifCond .le 12, 3) := by decide +kernel
theorem dX7_rate_14 : decode cX7_rate 14 = .ok (.aload_n 0, 1) := by decide +kernel
theorem dX7_rate_15 : decode cX7_rate 15 = .ok (.getfield 25, 3) := by decide +kernel
theorem dX7_rate_18 : decode cX7_rate 18 = .ok (.iload_n 1, 1) := by decide +kernel
theorem dX7_rate_19 : decode cX7_rate 19 = .ok (.iaload, 1) := by decide +kernel
theorem dX7_rate_20 : decode cX7_rate 20 = .ok (.goto 9, 3) := by decide +kernel
theorem dX7_rate_23 : decode cX7_rate 23 = .ok (.aload_n 0, 1) := by decide +kernel
theorem dX7_rate_24 : decode cX7_rate 24 = .ok (.getfield 19, 3) := by decide +kernel
theorem dX7_rate_27 : decode cX7_rate 27 = .ok (.iload_n 1, 1) := by decide +kernel
theorem dX7_rate_28 : decode cX7_rate 28 = .ok (.iaload, 1) := by decide +kernel
theorem dX7_rate_29 : decode cX7_rate 29 = .ok (.istore_n 3, 1) := by decide +kernel
theorem dX7_rate_30 : decode cX7_rate 30 = .ok (.iload_n 3, 1) := by decide +kernel
theorem dX7_rate_31 : decode cX7_rate 31 = .ok (.ifCond .ne 7, 3) := by decide +kernel
theorem dX7_rate_34 : decode cX7_rate 34 = .ok (.dconst 0, 1) := by decide +kernel
theorem dX7_rate_35 : decode cX7_rate 35 = .ok (.goto 13, 3) := by decide +kernel
theorem dX7_rate_38 : decode cX7_rate 38 = .ok (.iload_n 3, 1) := by decide +kernel
theorem dX7_rate_39 : decode cX7_rate 39 = .ok (.i2d, 1) := by decide +kernel
theorem dX7_rate_40 : decode cX7_rate 40 = .ok (.aload_n 0, 1) := by decide +kernel
theorem dX7_rate_41 : decode cX7_rate 41 = .ok (.getfield 22, 3) := by decide +kernel
theorem dX7_rate_44 : decode cX7_rate 44 = .ok (.iload_n 1, 1) := by decide +kernel
theorem dX7_rate_45 : decode cX7_rate 45 = .ok (.iaload, 1) := by decide +kernel
theorem dX7_rate_46 : decode cX7_rate 46 = .ok (.i2d, 1) := by decide +kernel
theorem dX7_rate_47 : decode cX7_rate 47 = .ok (.ddiv, 1) := by decide +kernel
theorem dX7_rate_48 : decode cX7_rate 48 = .ok (.dreturn, 1) := by decide +kernel
set_option maxRecDepth 20000 in
theorem ggX7_base_X7_cell : GoodIn wsX7_base wsX7_cell := goodIn_r _ [7] (by decide +kernel) (by decide +kernel)
set_option maxRecDepth 20000 in
theorem gX7_base_X7_cell : GoodIn wsX7_base (va_wsS RX7 119 yX7_cell wsX7_cell) := goodIn_app (goodIn_of _ (by decide +kernel)) ggX7_base_X7_cell
theorem dX7_base_0 : decode cX7_base 0 = .ok (.iload_n 1, 1) := by decide +kernel
theorem dX7_base_1 : decode cX7_base 1 = .ok (.ifCond .ne 5, 3) := by decide +kernel
theorem dX7_base_4 : decode cX7_base 4 = .ok (.dconst 0, 1) := by decide +kernel
theorem dX7_base_5 : decode cX7_base 5 = .ok (.dreturn, 1) := by decide +kernel
theorem dX7_base_6 : decode cX7_base 6 = .ok (.iload_n 1, 1) := by decide +kernel
theorem dX7_base_7 : decode cX7_base 7 = .ok (.iconst 1, 1) := by decide +kernel
theorem dX7_base_8 : decode cX7_base 8 = .ok (.isub, 1) := by decide +kernel
theorem dX7_base_9 : decode cX7_base 9 = .ok (.iload_n 2, 1) := by decide +kernel
theorem dX7_base_10 : decode cX7_base 10 = .ok (.iload_n 3, 1) := by decide +kernel
theorem dX7_base_11 : decode cX7_base 11 = .ok (.invokestatic 119, 3) := by decide +kernel
theorem dX7_base_14 : decode cX7_base 14 = .ok (.istore 5, 2) := by decide +kernel
theorem dX7_base_16 : decode cX7_base 16 = .ok (.aload_n 0, 1) := by decide +kernel
theorem dX7_base_17 : decode cX7_base 17 = .ok (.getfield 32, 3) := by decide +kernel
theorem dX7_base_20 : decode cX7_base 20 = .ok (.iload 5, 2) := by decide +kernel
theorem dX7_base_22 : decode cX7_base 22 = .ok (.iaload, 1) := by decide +kernel
theorem dX7_base_23 : decode cX7_base 23 = .ok (.ifCond .le 23, 3) := by decide +kernel
theorem dX7_base_26 : decode cX7_base 26 = .ok (.aload_n 0, 1) := by decide +kernel
theorem dX7_base_27 : decode cX7_base 27 = .ok (.getfield 32, 3) := by decide +kernel
theorem dX7_base_30 : decode cX7_base 30 = .ok (.iload 5, 2) := by decide +kernel
theorem dX7_base_32 : decode cX7_base 32 = .ok (.iaload, 1) := by decide +kernel
theorem dX7_base_33 : decode cX7_base 33 = .ok (.i2d, 1) := by decide +kernel
theorem dX7_base_34 : decode cX7_base 34 = .ok (.aload_n 0, 1) := by decide +kernel
theorem dX7_base_35 : decode cX7_base 35 = .ok (.getfield 35, 3) := by decide +kernel
theorem dX7_base_38 : decode cX7_base 38 = .ok (.iload 5, 2) := by decide +kernel
theorem dX7_base_40 : decode cX7_base 40 = .ok (.iaload, 1) := by decide +kernel
theorem dX7_base_41 : decode cX7_base 41 = .ok (.i2d, 1) := by decide +kernel
theorem dX7_base_42 : decode cX7_base 42 = .ok (.ddiv, 1) := by decide +kernel
theorem dX7_base_43 : decode cX7_base 43 = .ok (.goto 17, 3) := by decide +kernel
theorem dX7_base_46 : decode cX7_base 46 = .ok (.aload_n 0, 1) := by decide +kernel
theorem dX7_base_47 : decode cX7_base 47 = .ok (.getfield 47, 3) := by decide +kernel
theorem dX7_base_50 : decode cX7_base 50 = .ok (.sipush 1152, 3) := by decide +kernel
theorem dX7_base_53 : decode cX7_base 53 = .ok (.iload 4, 2) := by decide +kernel
theorem dX7_base_55 : decode cX7_base 55 = .ok (.imul, 1) := by decide +kernel
theorem dX7_base_56 : decode cX7_base 56 = .ok (.iload 5, 2) := by decide +kernel
theorem dX7_base_58 : decode cX7_base 58 = .ok (.iadd, 1) := by decide +kernel
theorem dX7_base_59 : decode cX7_base 59 = .ok (.daload, 1) := by decide +kernel
theorem dX7_base_60 : decode cX7_base 60 = .ok (.dreturn, 1) := by decide +kernel
set_option maxRecDepth 20000 in
theorem ggX7_matches_X7_cell : GoodIn wsX7_matches wsX7_cell := goodIn_r _ [7] (by decide +kernel) (by decide +kernel)
set_option maxRecDepth 20000 in
theorem gX7_matches_X7_cell : GoodIn wsX7_matches (va_wsS RX7 119 yX7_cell wsX7_cell) := goodIn_app (goodIn_of _ (by decide +kernel)) ggX7_matches_X7_cell
set_option maxRecDepth 20000 in
theorem ggX7_matches_X7_rate : GoodIn wsX7_matches wsX7_rate := goodIn_r _ [11, 12, 13, 14, 22, 23, 24, 25, 26, 27, 28, 29, 30, 31, 32, 33, 34, 35, 36, 37, 38, 39, 40, 41, 42, 43, 44, 45, 46, 47, 48, 49, 50, 51, 52, 53, 54] (by decide +kernel) (by decide +kernel)
set_option maxRecDepth 20000 in
theorem gX7_matches_X7_rate : GoodIn wsX7_matches (wsV RX7 127 RX7 yX7_rate wsX7_rate) := goodIn_app (goodIn_of _ (by decide +kernel)) ggX7_matches_X7_rate
set_option maxRecDepth 20000 in
theorem ggX7_matches_X7_base : GoodIn wsX7_matches wsX7_base := goodIn_r _ [18, 19, 20, 21, 4, 5, 6, 7, 22, 23, 24, 25, 26, 27, 28, 29, 30, 31, 32, 33, 34, 35, 36, 37, 38, 39, 40, 41, 42, 43, 44, 45, 46, 47, 48, 49, 50, 51, 52, 53, 54] (by decide +kernel) (by decide +kernel)
set_option maxRecDepth 20000 in
theorem gX7_matches_X7_base : GoodIn wsX7_matches (wsV RX7 131 RX7 yX7_base wsX7_base) := goodIn_app (goodIn_of _ (by decide +kernel)) ggX7_matches_X7_base
theorem dX7_matches_0 : decode cX7_matches 0 = .ok (.aload_n 0, 1) := by decide +kernel
theorem dX7_matches_1 : decode cX7_matches 1 = .ok (.iload_n 1, 1) := by decide +kernel
theorem dX7_matches_2 : decode cX7_matches 2 = .ok (.iload_n 2, 1) := by decide +kernel
theorem dX7_matches_3 : decode cX7_matches 3 = .ok (.iload_n 3, 1) := by decide +kernel
theorem dX7_matches_4 : decode cX7_matches 4 = .ok (.invokestatic 119, 3) := by decide +kernel
theorem dX7_matches_7 : decode cX7_matches 7 = .ok (.iload 4, 2) := by decide +kernel
theorem dX7_matches_9 : decode cX7_matches 9 = .ok (.invokevirtual 127, 3) := by decide +kernel
theorem dX7_matches_12 : decode cX7_matches 12 = .ok (.dstore 5, 2) := by decide +kernel
theorem dX7_matches_14 : decode cX7_matches 14 = .ok (.aload_n 0, 1) := by decide +kernel
theorem dX7_matches_15 : decode cX7_matches 15 = .ok (.iload_n 1, 1) := by decide +kernel
theorem dX7_matches_16 : decode cX7_matches 16 = .ok (.iload_n 2, 1) := by decide +kernel
theorem dX7_matches_17 : decode cX7_matches 17 = .ok (.iload_n 3, 1) := by decide +kernel
theorem dX7_matches_18 : decode cX7_matches 18 = .ok (.iload 4, 2) := by decide +kernel
theorem dX7_matches_20 : decode cX7_matches 20 = .ok (.invokevirtual 131, 3) := by decide +kernel
theorem dX7_matches_23 : decode cX7_matches 23 = .ok (.dstore 7, 2) := by decide +kernel
theorem dX7_matches_25 : decode cX7_matches 25 = .ok (.dload 5, 2) := by decide +kernel
theorem dX7_matches_27 : decode cX7_matches 27 = .ok (.dconst 0, 1) := by decide +kernel
theorem dX7_matches_28 : decode cX7_matches 28 = .ok (.dcmp .l, 1) := by decide +kernel
theorem dX7_matches_29 : decode cX7_matches 29 = .ok (.ifCond .eq 10, 3) := by decide +kernel
theorem dX7_matches_32 : decode cX7_matches 32 = .ok (.dload 7, 2) := by decide +kernel
theorem dX7_matches_34 : decode cX7_matches 34 = .ok (.dconst 0, 1) := by decide +kernel
theorem dX7_matches_35 : decode cX7_matches 35 = .ok (.dcmp .l, 1) := by decide +kernel
theorem dX7_matches_36 : decode cX7_matches 36 = .ok (.ifCond .ne 5, 3) := by decide +kernel
theorem dX7_matches_39 : decode cX7_matches 39 = .ok (.iconst 0, 1) := by decide +kernel
theorem dX7_matches_40 : decode cX7_matches 40 = .ok (.ireturn, 1) := by decide +kernel
theorem dX7_matches_41 : decode cX7_matches 41 = .ok (.dload 5, 2) := by decide +kernel
theorem dX7_matches_43 : decode cX7_matches 43 = .ok (.dload 7, 2) := by decide +kernel
theorem dX7_matches_45 : decode cX7_matches 45 = .ok (.ddiv, 1) := by decide +kernel
theorem dX7_matches_46 : decode cX7_matches 46 = .ok (.dstore 9, 2) := by decide +kernel
theorem dX7_matches_48 : decode cX7_matches 48 = .ok (.aload_n 0, 1) := by decide +kernel
theorem dX7_matches_49 : decode cX7_matches 49 = .ok (.getfield 28, 3) := by decide +kernel
theorem dX7_matches_52 : decode cX7_matches 52 = .ok (.iload_n 1, 1) := by decide +kernel
theorem dX7_matches_53 : decode cX7_matches 53 = .ok (.iload_n 2, 1) := by decide +kernel
theorem dX7_matches_54 : decode cX7_matches 54 = .ok (.iload_n 3, 1) := by decide +kernel
theorem dX7_matches_55 : decode cX7_matches 55 = .ok (.invokestatic 119, 3) := by decide +kernel
theorem dX7_matches_58 : decode cX7_matches 58 = .ok (.baload, 1) := by decide +kernel
theorem dX7_matches_59 : decode cX7_matches 59 = .ok (.ifCond .eq 9, 3) := by decide +kernel
theorem dX7_matches_62 : decode cX7_matches 62 = .ok (.ldc2_w 135, 3) := by decide +kernel
theorem dX7_matches_65 : decode cX7_matches 65 = .ok (.goto 6, 3) := by decide +kernel
theorem dX7_matches_68 : decode cX7_matches 68 = .ok (.ldc2_w 137, 3) := by decide +kernel
theorem dX7_matches_71 : decode cX7_matches 71 = .ok (.dstore 11, 2) := by decide +kernel
theorem dX7_matches_73 : decode cX7_matches 73 = .ok (.dload 9, 2) := by decide +kernel
theorem dX7_matches_75 : decode cX7_matches 75 = .ok (.dload 11, 2) := by decide +kernel
theorem dX7_matches_77 : decode cX7_matches 77 = .ok (.dcmp .g, 1) := by decide +kernel
theorem dX7_matches_78 : decode cX7_matches 78 = .ok (.ifCond .gt 17, 3) := by decide +kernel
theorem dX7_matches_81 : decode cX7_matches 81 = .ok (.dload 9, 2) := by decide +kernel
theorem dX7_matches_83 : decode cX7_matches 83 = .ok (.dload 11, 2) := by decide +kernel
theorem dX7_matches_85 : decode cX7_matches 85 = .ok (.dmul, 1) := by decide +kernel
theorem dX7_matches_86 : decode cX7_matches 86 = .ok (.dconst 1, 1) := by decide +kernel
theorem dX7_matches_87 : decode cX7_matches 87 = .ok (.dcmp .l, 1) := by decide +kernel
theorem dX7_matches_88 : decode cX7_matches 88 = .ok (.ifCond .lt 7, 3) := by decide +kernel
theorem dX7_matches_91 : decode cX7_matches 91 = .ok (.iconst 1, 1) := by decide +kernel
theorem dX7_matches_92 : decode cX7_matches 92 = .ok (.goto 4, 3) := by decide +kernel
theorem dX7_matches_95 : decode cX7_matches 95 = .ok (.iconst 0, 1) := by decide +kernel
theorem dX7_matches_96 : decode cX7_matches 96 = .ok (.ireturn, 1) := by decide +kernel
set_option maxRecDepth 20000 in
theorem ggX7_meanOf_X7_cell : GoodIn wsX7_meanOf wsX7_cell := goodIn_r _ [6] (by decide +kernel) (by decide +kernel)
set_option maxRecDepth 20000 in
theorem gX7_meanOf_X7_cell : GoodIn wsX7_meanOf (va_wsS RX7 119 yX7_cell wsX7_cell) := goodIn_app (goodIn_of _ (by decide +kernel)) ggX7_meanOf_X7_cell
set_option maxRecDepth 20000 in
theorem ggX7_meanOf_X7_base : GoodIn wsX7_meanOf wsX7_base := goodIn_r _ [10, 11, 12, 13, 3, 4, 5, 6, 21, 22, 23, 24, 25, 26, 27, 28, 29, 30, 31, 32, 33, 34, 35, 36, 37, 38, 39, 40, 41, 42, 43, 44, 45, 46, 47, 48, 49, 50, 51, 52, 53] (by decide +kernel) (by decide +kernel)
set_option maxRecDepth 20000 in
theorem gX7_meanOf_X7_base : GoodIn wsX7_meanOf (wsV RX7 131 RX7 yX7_base wsX7_base) := goodIn_app (goodIn_of _ (by decide +kernel)) ggX7_meanOf_X7_base
set_option maxRecDepth 20000 in
theorem ggX7_meanOf_X7_rate : GoodIn wsX7_meanOf wsX7_rate := goodIn_r _ [17, 18, 19, 20, 21, 22, 23, 24, 25, 26, 27, 28, 29, 30, 31, 32, 33, 34, 35, 36, 37, 38, 39, 40, 41, 42, 43, 44, 45, 46, 47, 48, 49, 50, 51, 52, 53] (by decide +kernel) (by decide +kernel)
set_option maxRecDepth 20000 in
theorem gX7_meanOf_X7_rate : GoodIn wsX7_meanOf (wsV RX7 127 RX7 yX7_rate wsX7_rate) := goodIn_app (goodIn_of _ (by decide +kernel)) ggX7_meanOf_X7_rate
theorem dX7_meanOf_0 : decode cX7_meanOf 0 = .ok (.iconst 0, 1) := by decide +kernel
theorem dX7_meanOf_1 : decode cX7_meanOf 1 = .ok (.istore 5, 2) := by decide +kernel
theorem dX7_meanOf_3 : decode cX7_meanOf 3 = .ok (.dconst 0, 1) := by decide +kernel
theorem dX7_meanOf_4 : decode cX7_meanOf 4 = .ok (.dstore 6, 2) := by decide +kernel
theorem dX7_meanOf_6 : decode cX7_meanOf 6 = .ok (.dconst 0, 1) := by decide +kernel
theorem dX7_meanOf_7 : decode cX7_meanOf 7 = .ok (.dstore 8, 2) := by decide +kernel
theorem dX7_meanOf_9 : decode cX7_meanOf 9 = .ok (.dconst 0, 1) := by decide +kernel
theorem dX7_meanOf_10 : decode cX7_meanOf 10 = .ok (.dstore 10, 2) := by decide +kernel
theorem dX7_meanOf_12 : decode cX7_meanOf 12 = .ok (.iconst 0, 1) := by decide +kernel
theorem dX7_meanOf_13 : decode cX7_meanOf 13 = .ok (.istore 12, 2) := by decide +kernel
theorem dX7_meanOf_15 : decode cX7_meanOf 15 = .ok (.iload 12, 2) := by decide +kernel
theorem dX7_meanOf_17 : decode cX7_meanOf 17 = .ok (.iconst 4, 1) := by decide +kernel
theorem dX7_meanOf_18 : decode cX7_meanOf 18 = .ok (.if_icmp .ge 138, 3) := by decide +kernel
theorem dX7_meanOf_21 : decode cX7_meanOf 21 = .ok (.aload_n 0, 1) := by decide +kernel
theorem dX7_meanOf_22 : decode cX7_meanOf 22 = .ok (.getfield 51, 3) := by decide +kernel
theorem dX7_meanOf_25 : decode cX7_meanOf 25 = .ok (.sipush 1152, 3) := by decide +kernel
theorem dX7_meanOf_28 : decode cX7_meanOf 28 = .ok (.iload_n 3, 1) := by decide +kernel
theorem dX7_meanOf_29 : decode cX7_meanOf 29 = .ok (.imul, 1) := by decide +kernel
theorem dX7_meanOf_30 : decode cX7_meanOf 30 = .ok (.iload_n 1, 1) := by decide +kernel
theorem dX7_meanOf_31 : decode cX7_meanOf 31 = .ok (.iload_n 2, 1) := by decide +kernel
theorem dX7_meanOf_32 : decode cX7_meanOf 32 = .ok (.iload 12, 2) := by decide +kernel
theorem dX7_meanOf_34 : decode cX7_meanOf 34 = .ok (.invokestatic 119, 3) := by decide +kernel
theorem dX7_meanOf_37 : decode cX7_meanOf 37 = .ok (.iadd, 1) := by decide +kernel
theorem dX7_meanOf_38 : decode cX7_meanOf 38 = .ok (.baload, 1) := by decide +kernel
theorem dX7_meanOf_39 : decode cX7_meanOf 39 = .ok (.ifCond .eq 111, 3) := by decide +kernel
theorem dX7_meanOf_42 : decode cX7_meanOf 42 = .ok (.iload 4, 2) := by decide +kernel
theorem dX7_meanOf_44 : decode cX7_meanOf 44 = .ok (.ifCond .eq 15, 3) := by decide +kernel
theorem dX7_meanOf_47 : decode cX7_meanOf 47 = .ok (.aload_n 0, 1) := by decide +kernel
theorem dX7_meanOf_48 : decode cX7_meanOf 48 = .ok (.iload_n 1, 1) := by decide +kernel
theorem dX7_meanOf_49 : decode cX7_meanOf 49 = .ok (.iload_n 2, 1) := by decide +kernel
theorem dX7_meanOf_50 : decode cX7_meanOf 50 = .ok (.iload 12, 2) := by decide +kernel
theorem dX7_meanOf_52 : decode cX7_meanOf 52 = .ok (.iload_n 3, 1) := by decide +kernel
theorem dX7_meanOf_53 : decode cX7_meanOf 53 = .ok (.invokevirtual 131, 3) := by decide +kernel
theorem dX7_meanOf_56 : decode cX7_meanOf 56 = .ok (.goto 15, 3) := by decide +kernel
theorem dX7_meanOf_59 : decode cX7_meanOf 59 = .ok (.aload_n 0, 1) := by decide +kernel
theorem dX7_meanOf_60 : decode cX7_meanOf 60 = .ok (.iload_n 1, 1) := by decide +kernel
theorem dX7_meanOf_61 : decode cX7_meanOf 61 = .ok (.iload_n 2, 1) := by decide +kernel
theorem dX7_meanOf_62 : decode cX7_meanOf 62 = .ok (.iload 12, 2) := by decide +kernel
theorem dX7_meanOf_64 : decode cX7_meanOf 64 = .ok (.invokestatic 119, 3) := by decide +kernel
theorem dX7_meanOf_67 : decode cX7_meanOf 67 = .ok (.iload_n 3, 1) := by decide +kernel
theorem dX7_meanOf_68 : decode cX7_meanOf 68 = .ok (.invokevirtual 127, 3) := by decide +kernel
theorem dX7_meanOf_71 : decode cX7_meanOf 71 = .ok (.dstore 13, 2) := by decide +kernel
theorem dX7_meanOf_73 : decode cX7_meanOf 73 = .ok (.iload 4, 2) := by decide +kernel
theorem dX7_meanOf_75 : decode cX7_meanOf 75 = .ok (.ifCond .eq 18, 3) := by decide +kernel
theorem dX7_meanOf_78 : decode cX7_meanOf 78 = .ok (.aload_n 0, 1) := by decide +kernel
theorem dX7_meanOf_79 : decode cX7_meanOf 79 = .ok (.iload_n 1, 1) := by decide +kernel
theorem dX7_meanOf_80 : decode cX7_meanOf 80 = .ok (.iload_n 2, 1) := by decide +kernel
theorem dX7_meanOf_81 : decode cX7_meanOf 81 = .ok (.iload 12, 2) := by decide +kernel
theorem dX7_meanOf_83 : decode cX7_meanOf 83 = .ok (.invokestatic 119, 3) := by decide +kernel
theorem dX7_meanOf_86 : decode cX7_meanOf 86 = .ok (.iload_n 3, 1) := by decide +kernel
theorem dX7_meanOf_87 : decode cX7_meanOf 87 = .ok (.invokevirtual 127, 3) := by decide +kernel
theorem dX7_meanOf_90 : decode cX7_meanOf 90 = .ok (.goto 12, 3) := by decide +kernel
theorem dX7_meanOf_93 : decode cX7_meanOf 93 = .ok (.aload_n 0, 1) := by decide +kernel
theorem dX7_meanOf_94 : decode cX7_meanOf 94 = .ok (.iload_n 1, 1) := by decide +kernel
theorem dX7_meanOf_95 : decode cX7_meanOf 95 = .ok (.iload_n 2, 1) := by decide +kernel
theorem dX7_meanOf_96 : decode cX7_meanOf 96 = .ok (.iload 12, 2) := by decide +kernel
theorem dX7_meanOf_98 : decode cX7_meanOf 98 = .ok (.iload_n 3, 1) := by decide +kernel
theorem dX7_meanOf_99 : decode cX7_meanOf 99 = .ok (.invokevirtual 131, 3) := by decide +kernel
theorem dX7_meanOf_102 : decode cX7_meanOf 102 = .ok (.dstore 15, 2) := by decide +kernel
theorem dX7_meanOf_104 : decode cX7_meanOf 104 = .ok (.iinc 5 1, 3) := by decide +kernel
theorem dX7_meanOf_107 : decode cX7_meanOf 107 = .ok (.dload 8, 2) := by decide +kernel
theorem dX7_meanOf_109 : decode cX7_meanOf 109 = .ok (.dload 13, 2) := by decide +kernel
theorem dX7_meanOf_111 : decode cX7_meanOf 111 = .ok (.dadd, 1) := by decide +kernel
theorem dX7_meanOf_112 : decode cX7_meanOf 112 = .ok (.dstore 8, 2) := by decide +kernel
theorem dX7_meanOf_114 : decode cX7_meanOf 114 = .ok (.dload 10, 2) := by decide +kernel
theorem dX7_meanOf_116 : decode cX7_meanOf 116 = .ok (.dload 15, 2) := by decide +kernel
theorem dX7_meanOf_118 : decode cX7_meanOf 118 = .ok (.dadd, 1) := by decide +kernel
theorem dX7_meanOf_119 : decode cX7_meanOf 119 = .ok (.dstore 10, 2) := by decide +kernel
theorem dX7_meanOf_121 : decode cX7_meanOf 121 = .ok (.dload 6, 2) := by decide +kernel
theorem dX7_meanOf_123 : decode cX7_meanOf 123 = .ok (.aload_n 0, 1) := by decide +kernel
theorem dX7_meanOf_124 : decode cX7_meanOf 124 = .ok (.getfield 13, 3) := by decide +kernel
theorem dX7_meanOf_127 : decode cX7_meanOf 127 = .ok (.iload_n 2, 1) := by decide +kernel
theorem dX7_meanOf_128 : decode cX7_meanOf 128 = .ok (.iaload, 1) := by decide +kernel
theorem dX7_meanOf_129 : decode cX7_meanOf 129 = .ok (.ifCond .ne 11, 3) := by decide +kernel
theorem dX7_meanOf_132 : decode cX7_meanOf 132 = .ok (.dload 13, 2) := by decide +kernel
theorem dX7_meanOf_134 : decode cX7_meanOf 134 = .ok (.dload 15, 2) := by decide +kernel
theorem dX7_meanOf_136 : decode cX7_meanOf 136 = .ok (.ddiv, 1) := by decide +kernel
theorem dX7_meanOf_137 : decode cX7_meanOf 137 = .ok (.goto 10, 3) := by decide +kernel
theorem dX7_meanOf_140 : decode cX7_meanOf 140 = .ok (.dconst 1, 1) := by decide +kernel
theorem dX7_meanOf_141 : decode cX7_meanOf 141 = .ok (.dload 13, 2) := by decide +kernel
theorem dX7_meanOf_143 : decode cX7_meanOf 143 = .ok (.dload 15, 2) := by decide +kernel
theorem dX7_meanOf_145 : decode cX7_meanOf 145 = .ok (.ddiv, 1) := by decide +kernel
theorem dX7_meanOf_146 : decode cX7_meanOf 146 = .ok (.ddiv, 1) := by decide +kernel
theorem dX7_meanOf_147 : decode cX7_meanOf 147 = .ok (.dadd, 1) := by decide +kernel
theorem dX7_meanOf_148 : decode cX7_meanOf 148 = .ok (.dstore 6, 2) := by decide +kernel
theorem dX7_meanOf_150 : decode cX7_meanOf 150 = .ok (.iinc 12 1, 3) := by decide +kernel
theorem dX7_meanOf_153 : decode cX7_meanOf 153 = .ok (.goto (-138), 3) := by decide +kernel
theorem dX7_meanOf_156 : decode cX7_meanOf 156 = .ok (.iload 5, 2) := by decide +kernel
theorem dX7_meanOf_158 : decode cX7_meanOf 158 = .ok (.ifCond .ne 7, 3) := by decide +kernel
theorem dX7_meanOf_161 : decode cX7_meanOf 161 = .ok (.dconst 0, 1) := by decide +kernel
theorem dX7_meanOf_162 : decode cX7_meanOf 162 = .ok (.goto 45, 3) := by decide +kernel
theorem dX7_meanOf_165 : decode cX7_meanOf 165 = .ok (.aload_n 0, 1) := by decide +kernel
theorem dX7_meanOf_166 : decode cX7_meanOf 166 = .ok (.getfield 13, 3) := by decide +kernel
theorem dX7_meanOf_169 : decode cX7_meanOf 169 = .ok (.iload_n 2, 1) := by decide +kernel
theorem dX7_meanOf_170 : decode cX7_meanOf 170 = .ok (.iaload, 1) := by decide +kernel
theorem dX7_meanOf_171 : decode cX7_meanOf 171 = .ok (.ifCond .ne 12, 3) := by decide +kernel
theorem dX7_meanOf_174 : decode cX7_meanOf 174 = .ok (.dload 6, 2) := by decide +kernel
theorem dX7_meanOf_176 : decode cX7_meanOf 176 = .ok (.iload 5, 2) := by decide +kernel
theorem dX7_meanOf_178 : decode cX7_meanOf 178 = .ok (.i2d, 1) := by decide +kernel
theorem dX7_meanOf_179 : decode cX7_meanOf 179 = .ok (.ddiv, 1) := by decide +kernel
theorem dX7_meanOf_180 : decode cX7_meanOf 180 = .ok (.goto 27, 3) := by decide +kernel
theorem dX7_meanOf_183 : decode cX7_meanOf 183 = .ok (.aload_n 0, 1) := by decide +kernel
theorem dX7_meanOf_184 : decode cX7_meanOf 184 = .ok (.getfield 13, 3) := by decide +kernel
theorem dX7_meanOf_187 : decode cX7_meanOf 187 = .ok (.iload_n 2, 1) := by decide +kernel
theorem dX7_meanOf_188 : decode cX7_meanOf 188 = .ok (.iaload, 1) := by decide +kernel
theorem dX7_meanOf_189 : decode cX7_meanOf 189 = .ok (.iconst 1, 1) := by decide +kernel
theorem dX7_meanOf_190 : decode cX7_meanOf 190 = .ok (.if_icmp .ne 11, 3) := by decide +kernel
theorem dX7_meanOf_193 : decode cX7_meanOf 193 = .ok (.dload 8, 2) := by decide +kernel
theorem dX7_meanOf_195 : decode cX7_meanOf 195 = .ok (.dload 10, 2) := by decide +kernel
theorem dX7_meanOf_197 : decode cX7_meanOf 197 = .ok (.ddiv, 1) := by decide +kernel
theorem dX7_meanOf_198 : decode cX7_meanOf 198 = .ok (.goto 9, 3) := by decide +kernel
theorem dX7_meanOf_201 : decode cX7_meanOf 201 = .ok (.iload 5, 2) := by decide +kernel
theorem dX7_meanOf_203 : decode cX7_meanOf 203 = .ok (.i2d, 1) := by decide +kernel
theorem dX7_meanOf_204 : decode cX7_meanOf 204 = .ok (.dload 6, 2) := by decide +kernel
theorem dX7_meanOf_206 : decode cX7_meanOf 206 = .ok (.ddiv, 1) := by decide +kernel
theorem dX7_meanOf_207 : decode cX7_meanOf 207 = .ok (.dreturn, 1) := by decide +kernel
set_option maxRecDepth 20000 in
theorem ggX7_prices_X7_cell : GoodIn wsX7_prices wsX7_cell := goodIn_r _ [7] (by decide +kernel) (by decide +kernel)
set_option maxRecDepth 20000 in
theorem gX7_prices_X7_cell : GoodIn wsX7_prices (va_wsS RX7 119 yX7_cell wsX7_cell) := goodIn_app (goodIn_of _ (by decide +kernel)) ggX7_prices_X7_cell
set_option maxRecDepth 20000 in
theorem ggX7_prices_X7_matches : GoodIn wsX7_prices wsX7_matches := goodIn_r _ [11, 12, 13, 14, 4, 5, 6, 7, 15, 16, 17, 18, 19, 20, 21, 22, 23, 24, 25, 26, 27, 3, 33, 34, 35, 36, 37, 38, 39, 40, 41, 42, 43, 44, 45, 46, 47, 48, 49, 50, 51, 52, 53, 54, 55, 56, 57, 58, 59, 60, 61, 62, 63, 64, 65] (by decide +kernel) (by decide +kernel)
set_option maxRecDepth 20000 in
theorem gX7_prices_X7_matches : GoodIn wsX7_prices (wsV RX7 139 RX7 yX7_matches wsX7_matches) := goodIn_app (goodIn_of _ (by decide +kernel)) ggX7_prices_X7_matches
set_option maxRecDepth 20000 in
theorem ggX7_prices_X7_meanOf : GoodIn wsX7_prices wsX7_meanOf := goodIn_r _ [31, 1, 32, 4, 5, 6, 7, 22, 23, 24, 25, 26, 27, 3, 15, 16, 17, 18, 19, 20, 21, 33, 34, 35, 36, 37, 38, 39, 40, 41, 42, 43, 44, 45, 46, 47, 48, 49, 50, 51, 52, 53, 54, 55, 56, 57, 58, 59, 60, 61, 62, 63, 64, 65] (by decide +kernel) (by decide +kernel)
set_option maxRecDepth 20000 in
theorem gX7_prices_X7_meanOf : GoodIn wsX7_prices (wsV RX7 143 RX7 yX7_meanOf wsX7_meanOf) := goodIn_app (goodIn_of _ (by decide +kernel)) ggX7_prices_X7_meanOf
set_option maxRecDepth 20000 in
theorem ggX7_prices_X7_base : GoodIn wsX7_prices wsX7_base := goodIn_r _ [25, 26, 27, 3, 4, 5, 6, 7, 33, 34, 35, 36, 37, 38, 39, 40, 41, 42, 43, 44, 45, 46, 47, 48, 49, 50, 51, 52, 53, 54, 55, 56, 57, 58, 59, 60, 61, 62, 63, 64, 65] (by decide +kernel) (by decide +kernel)
set_option maxRecDepth 20000 in
theorem gX7_prices_X7_base : GoodIn wsX7_prices (wsV RX7 131 RX7 yX7_base wsX7_base) := goodIn_app (goodIn_of _ (by decide +kernel)) ggX7_prices_X7_base
set_option maxRecDepth 20000 in
theorem ggX7_prices_X7_rate : GoodIn wsX7_prices wsX7_rate := goodIn_r _ [18, 19, 20, 21, 33, 34, 35, 36, 37, 38, 39, 40, 41, 42, 43, 44, 45, 46, 47, 48, 49, 50, 51, 52, 53, 54, 55, 56, 57, 58, 59, 60, 61, 62, 63, 64, 65] (by decide +kernel) (by decide +kernel)
set_option maxRecDepth 20000 in
theorem gX7_prices_X7_rate : GoodIn wsX7_prices (wsV RX7 127 RX7 yX7_rate wsX7_rate) := goodIn_app (goodIn_of _ (by decide +kernel)) ggX7_prices_X7_rate
theorem dX7_prices_0 : decode cX7_prices 0 = .ok (.sipush 1152, 3) := by decide +kernel
theorem dX7_prices_3 : decode cX7_prices 3 = .ok (.iload_n 3, 1) := by decide +kernel
theorem dX7_prices_4 : decode cX7_prices 4 = .ok (.imul, 1) := by decide +kernel
theorem dX7_prices_5 : decode cX7_prices 5 = .ok (.istore 4, 2) := by decide +kernel
theorem dX7_prices_7 : decode cX7_prices 7 = .ok (.iconst 0, 1) := by decide +kernel
theorem dX7_prices_8 : decode cX7_prices 8 = .ok (.istore 5, 2) := by decide +kernel
theorem dX7_prices_10 : decode cX7_prices 10 = .ok (.iload 5, 2) := by decide +kernel
theorem dX7_prices_12 : decode cX7_prices 12 = .ok (.iconst 4, 1) := by decide +kernel
theorem dX7_prices_13 : decode cX7_prices 13 = .ok (.if_icmp .ge 33, 3) := by decide +kernel
theorem dX7_prices_16 : decode cX7_prices 16 = .ok (.aload_n 0, 1) := by decide +kernel
theorem dX7_prices_17 : decode cX7_prices 17 = .ok (.getfield 51, 3) := by decide +kernel
theorem dX7_prices_20 : decode cX7_prices 20 = .ok (.iload 4, 2) := by decide +kernel
theorem dX7_prices_22 : decode cX7_prices 22 = .ok (.iload_n 1, 1) := by decide +kernel
theorem dX7_prices_23 : decode cX7_prices 23 = .ok (.iload_n 2, 1) := by decide +kernel
theorem dX7_prices_24 : decode cX7_prices 24 = .ok (.iload 5, 2) := by decide +kernel

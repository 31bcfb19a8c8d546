theorem dX9_init_0 : decode cX9_init 0 = .ok (.aload_n 0, 1) := by decide +kernel
theorem dX9_init_1 : decode cX9_init 1 = .ok (.invokespecial 1, 3) := by decide +kernel
theorem dX9_init_4 : decode cX9_init 4 = .ok (.aload_n 0, 1) := by decide +kernel
theorem dX9_init_5 : decode cX9_init 5 = .ok (.bipush 48, 2) := by decide +kernel
theorem dX9_init_7 : decode cX9_init 7 = .ok (.newarray .int, 2) := by decide +kernel
theorem dX9_init_9 : decode cX9_init 9 = .ok (.putfield 7, 3) := by decide +kernel
theorem dX9_init_12 : decode cX9_init 12 = .ok (.aload_n 0, 1) := by decide +kernel
theorem dX9_init_13 : decode cX9_init 13 = .ok (.bipush 6, 2) := by decide +kernel
theorem dX9_init_15 : decode cX9_init 15 = .ok (.newarray .int, 2) := by decide +kernel
theorem dX9_init_17 : decode cX9_init 17 = .ok (.putfield 13, 3) := by decide +kernel
theorem dX9_init_20 : decode cX9_init 20 = .ok (.aload_n 0, 1) := by decide +kernel
theorem dX9_init_21 : decode cX9_init 21 = .ok (.bipush 6, 2) := by decide +kernel
theorem dX9_init_23 : decode cX9_init 23 = .ok (.newarray .int, 2) := by decide +kernel
theorem dX9_init_25 : decode cX9_init 25 = .ok (.putfield 16, 3) := by decide +kernel
theorem dX9_init_28 : decode cX9_init 28 = .ok (.aload_n 0, 1) := by decide +kernel
theorem dX9_init_29 : decode cX9_init 29 = .ok (.bipush 6, 2) := by decide +kernel
theorem dX9_init_31 : decode cX9_init 31 = .ok (.newarray .int, 2) := by decide +kernel
theorem dX9_init_33 : decode cX9_init 33 = .ok (.putfield 19, 3) := by decide +kernel
theorem dX9_init_36 : decode cX9_init 36 = .ok (.aload_n 0, 1) := by decide +kernel
theorem dX9_init_37 : decode cX9_init 37 = .ok (.bipush 6, 2) := by decide +kernel
theorem dX9_init_39 : decode cX9_init 39 = .ok (.newarray .int, 2) := by decide +kernel
theorem dX9_init_41 : decode cX9_init 41 = .ok (.putfield 22, 3) := by decide +kernel
theorem dX9_init_44 : decode cX9_init 44 = .ok (.aload_n 0, 1) := by decide +kernel
theorem dX9_init_45 : decode cX9_init 45 = .ok (.bipush 6, 2) := by decide +kernel
theorem dX9_init_47 : decode cX9_init 47 = .ok (.newarray .int, 2) := by decide +kernel
theorem dX9_init_49 : decode cX9_init 49 = .ok (.putfield 25, 3) := by decide +kernel
theorem dX9_init_52 : decode cX9_init 52 = .ok (.aload_n 0, 1) := by decide +kernel
theorem dX9_init_53 : decode cX9_init 53 = .ok (.bipush 18, 2) := by decide +kernel
theorem dX9_init_55 : decode cX9_init 55 = .ok (.newarray .int, 2) := by decide +kernel
theorem dX9_init_57 : decode cX9_init 57 = .ok (.putfield 28, 3) := by decide +kernel
theorem dX9_init_60 : decode cX9_init 60 = .ok (.aload_n 0, 1) := by decide +kernel
theorem dX9_init_61 : decode cX9_init 61 = .ok (.sipush 144, 3) := by decide +kernel
theorem dX9_init_64 : decode cX9_init 64 = .ok (.newarray .int, 2) := by decide +kernel
theorem dX9_init_66 : decode cX9_init 66 = .ok (.putfield 31, 3) := by decide +kernel
theorem dX9_init_69 : decode cX9_init 69 = .ok (.aload_n 0, 1) := by decide +kernel
theorem dX9_init_70 : decode cX9_init 70 = .ok (.sipush 144, 3) := by decide +kernel
theorem dX9_init_73 : decode cX9_init 73 = .ok (.newarray .int, 2) := by decide +kernel
theorem dX9_init_75 : decode cX9_init 75 = .ok (.putfield 34, 3) := by decide +kernel
theorem dX9_init_78 : decode cX9_init 78 = .ok (.aload_n 0, 1) := by decide +kernel
theorem dX9_init_79 : decode cX9_init 79 = .ok (.sipush 144, 3) := by decide +kernel
theorem dX9_init_82 : decode cX9_init 82 = .ok (.newarray .int, 2) := by decide +kernel
theorem dX9_init_84 : decode cX9_init 84 = .ok (.putfield 37, 3) := by decide +kernel
theorem dX9_init_87 : decode cX9_init 87 = .ok (.aload_n 0, 1) := by decide +kernel
theorem dX9_init_88 : decode cX9_init 88 = .ok (.sipush 144, 3) := by decide +kernel
theorem dX9_init_91 : decode cX9_init 91 = .ok (.newarray .boolean, 2) := by decide +kernel
theorem dX9_init_93 : decode cX9_init 93 = .ok (.putfield 40, 3) := by decide +kernel
theorem dX9_init_96 : decode cX9_init 96 = .ok (.aload_n 0, 1) := by decide +kernel
theorem dX9_init_97 : decode cX9_init 97 = .ok (.sipush 144, 3) := by decide +kernel
theorem dX9_init_100 : decode cX9_init 100 = .ok (.newarray .boolean, 2) := by decide +kernel
theorem dX9_init_102 : decode cX9_init 102 = .ok (.putfield 44, 3) := by decide +kernel
theorem dX9_init_105 : decode cX9_init 105 = .ok (.aload_n 0, 1) := by decide +kernel
theorem dX9_init_106 : decode cX9_init 106 = .ok (.bipush 60, 2) := by decide +kernel
theorem dX9_init_108 : decode cX9_init 108 = .ok (.newarray .int, 2) := by decide +kernel
theorem dX9_init_110 : decode cX9_init 110 = .ok (.putfield 47, 3) := by decide +kernel
theorem dX9_init_113 : decode cX9_init 113 = .ok (.aload_n 0, 1) := by decide +kernel
theorem dX9_init_114 : decode cX9_init 114 = .ok (.bipush 60, 2) := by decide +kernel
theorem dX9_init_116 : decode cX9_init 116 = .ok (.newarray .int, 2) := by decide +kernel
theorem dX9_init_118 : decode cX9_init 118 = .ok (.putfield 50, 3) := by decide +kernel
theorem dX9_init_121 : decode cX9_init 121 = .ok (.aload_n 0, 1) := by decide +kernel
theorem dX9_init_122 : decode cX9_init 122 = .ok (.bipush 60, 2) := by decide +kernel
theorem dX9_init_124 : decode cX9_init 124 = .ok (.newarray .int, 2) := by decide +kernel
theorem dX9_init_126 : decode cX9_init 126 = .ok (.putfield 53, 3) := by decide +kernel
theorem dX9_init_129 : decode cX9_init 129 = .ok (.aload_n 0, 1) := by decide +kernel
theorem dX9_init_130 : decode cX9_init 130 = .ok (.bipush 60, 2) := by decide +kernel
theorem dX9_init_132 : decode cX9_init 132 = .ok (.newarray .boolean, 2) := by decide +kernel
theorem dX9_init_134 : decode cX9_init 134 = .ok (.putfield 56, 3) := by decide +kernel
theorem dX9_init_137 : decode cX9_init 137 = .ok (.aload_n 0, 1) := by decide +kernel
theorem dX9_init_138 : decode cX9_init 138 = .ok (.bipush 60, 2) := by decide +kernel
theorem dX9_init_140 : decode cX9_init 140 = .ok (.newarray .int, 2) := by decide +kernel
theorem dX9_init_142 : decode cX9_init 142 = .ok (.putfield 59, 3) := by decide +kernel
theorem dX9_init_145 : decode cX9_init 145 = .ok (.aload_n 0, 1) := by decide +kernel
theorem dX9_init_146 : decode cX9_init 146 = .ok (.bipush 60, 2) := by decide +kernel
theorem dX9_init_148 : decode cX9_init 148 = .ok (.newarray .int, 2) := by decide +kernel
theorem dX9_init_150 : decode cX9_init 150 = .ok (.putfield 62, 3) := by decide +kernel
theorem dX9_init_153 : decode cX9_init 153 = .ok (.aload_n 0, 1) := by decide +kernel
theorem dX9_init_154 : decode cX9_init 154 = .ok (.bipush 60, 2) := by decide +kernel
theorem dX9_init_156 : decode cX9_init 156 = .ok (.newarray .int, 2) := by decide +kernel
theorem dX9_init_158 : decode cX9_init 158 = .ok (.putfield 65, 3) := by decide +kernel
theorem dX9_init_161 : decode cX9_init 161 = .ok (.aload_n 0, 1) := by decide +kernel
theorem dX9_init_162 : decode cX9_init 162 = .ok (.bipush 60, 2) := by decide +kernel
theorem dX9_init_164 : decode cX9_init 164 = .ok (.newarray .int, 2) := by decide +kernel
theorem dX9_init_166 : decode cX9_init 166 = .ok (.putfield 68, 3) := by decide +kernel
theorem dX9_init_169 : decode cX9_init 169 = .ok (.aload_n 0, 1) := by decide +kernel
theorem dX9_init_170 : decode cX9_init 170 = .ok (.bipush 60, 2) := by decide +kernel
theorem dX9_init_172 : decode cX9_init 172 = .ok (.newarray .int, 2) := by decide +kernel
theorem dX9_init_174 : decode cX9_init 174 = .ok (.putfield 71, 3) := by decide +kernel
theorem dX9_init_177 : decode cX9_init 177 = .ok (.aload_n 0, 1) := by decide +kernel
theorem dX9_init_178 : decode cX9_init 178 = .ok (.bipush 60, 2) := by decide +kernel
theorem dX9_init_180 : decode cX9_init 180 = .ok (.newarray .int, 2) := by decide +kernel
theorem dX9_init_182 : decode cX9_init 182 = .ok (.putfield 74, 3) := by decide +kernel
theorem dX9_init_185 : decode cX9_init 185 = .ok (.aload_n 0, 1) := by decide +kernel
theorem dX9_init_186 : decode cX9_init 186 = .ok (.bipush 60, 2) := by decide +kernel
theorem dX9_init_188 : decode cX9_init 188 = .ok (.newarray .boolean, 2) := by decide +kernel
theorem dX9_init_190 : decode cX9_init 190 = .ok (.putfield 77, 3) := by decide +kernel
theorem dX9_init_193 : decode cX9_init 193 = .ok (.aload_n 0, 1) := by decide +kernel
theorem dX9_init_194 : decode cX9_init 194 = .ok (.bipush 60, 2) := by decide +kernel
theorem dX9_init_196 : decode cX9_init 196 = .ok (.newarray .int, 2) := by decide +kernel
theorem dX9_init_198 : decode cX9_init 198 = .ok (.putfield 80, 3) := by decide +kernel
theorem dX9_init_201 : decode cX9_init 201 = .ok (.aload_n 0, 1) := by decide +kernel
theorem dX9_init_202 : decode cX9_init 202 = .ok (.bipush 60, 2) := by decide +kernel
theorem dX9_init_204 : decode cX9_init 204 = .ok (.newarray .int, 2) := by decide +kernel
theorem dX9_init_206 : decode cX9_init 206 = .ok (.putfield 83, 3) := by decide +kernel
theorem dX9_init_209 : decode cX9_init 209 = .ok (.aload_n 0, 1) := by decide +kernel
theorem dX9_init_210 : decode cX9_init 210 = .ok (.bipush 8, 2) := by decide +kernel
theorem dX9_init_212 : decode cX9_init 212 = .ok (.newarray .int, 2) := by decide +kernel
theorem dX9_init_214 : decode cX9_init 214 = .ok (.putfield 86, 3) := by decide +kernel
theorem dX9_init_217 : decode cX9_init 217 = .ok (.aload_n 0, 1) := by decide +kernel
theorem dX9_init_218 : decode cX9_init 218 = .ok (.bipush 20, 2) := by decide +kernel
theorem dX9_init_220 : decode cX9_init 220 = .ok (.newarray .char, 2) := by decide +kernel
theorem dX9_init_222 : decode cX9_init 222 = .ok (.putfield 89, 3) := by decide +kernel
theorem dX9_init_225 : decode cX9_init 225 = .ok (.return_, 1) := by decide +kernel
theorem dX9_thrown_0 : decode cX9_thrown 0 = .ok (.aload_n 0, 1) := by decide +kernel
theorem dX9_thrown_1 : decode cX9_thrown 1 = .ok (.getfield 93, 3) := by decide +kernel
theorem dX9_thrown_4 : decode cX9_thrown 4 = .ok (.ireturn, 1) := by decide +kernel
theorem dX9_in_0 : decode cX9_in 0 = .ok (.iload_n 0, 1) := by decide +kernel
theorem dX9_in_1 : decode cX9_in 1 = .ok (.iload_n 1, 1) := by decide +kernel
theorem dX9_in_2 : decode cX9_in 2 = .ok (.if_icmp .lt 12, 3) := by decide +kernel
theorem dX9_in_5 : decode cX9_in 5 = .ok (.iload_n 0, 1) := by decide +kernel
theorem dX9_in_6 : decode cX9_in 6 = .ok (.iload_n 2, 1) := by decide +kernel
theorem dX9_in_7 : decode cX9_in 7 = .ok (.if_icmp .gt 7, 3) := by decide +kernel
theorem dX9_in_10 : decode cX9_in 10 = .ok (.iconst 1, 1) := by decide +kernel
theorem dX9_in_11 : decode cX9_in 11 = .ok (.goto 4, 3) := by decide +kernel
theorem dX9_in_14 : decode cX9_in 14 = .ok (.iconst 0, 1) := by decide +kernel
theorem dX9_in_15 : decode cX9_in 15 = .ok (.ireturn, 1) := by decide +kernel
set_option maxRecDepth 20000 in
theorem ggX9_isBidder_X9_in : GoodIn wsX9_isBidder wsX9_in := goodIn_r _ [4] (by decide +kernel) (by decide +kernel)
set_option maxRecDepth 20000 in
theorem gX9_isBidder_X9_in : GoodIn wsX9_isBidder (va_wsS RX9 97 yX9_in wsX9_in) := goodIn_app (goodIn_of _ (by decide +kernel)) ggX9_isBidder_X9_in
theorem dX9_isBidder_0 : decode cX9_isBidder 0 = .ok (.iload_n 0, 1) := by decide +kernel
theorem dX9_isBidder_1 : decode cX9_isBidder 1 = .ok (.iconst 0, 1) := by decide +kernel
theorem dX9_isBidder_2 : decode cX9_isBidder 2 = .ok (.bipush 7, 2) := by decide +kernel
theorem dX9_isBidder_4 : decode cX9_isBidder 4 = .ok (.invokestatic 97, 3) := by decide +kernel
theorem dX9_isBidder_7 : decode cX9_isBidder 7 = .ok (.ireturn, 1) := by decide +kernel
set_option maxRecDepth 20000 in
theorem ggX9_isTender_X9_in : GoodIn wsX9_isTender wsX9_in := goodIn_r _ [5] (by decide +kernel) (by decide +kernel)
set_option maxRecDepth 20000 in
theorem gX9_isTender_X9_in : GoodIn wsX9_isTender (va_wsS RX9 97 yX9_in wsX9_in) := goodIn_app (goodIn_of _ (by decide +kernel)) ggX9_isTender_X9_in
theorem dX9_isTender_0 : decode cX9_isTender 0 = .ok (.iload_n 1, 1) := by decide +kernel
theorem dX9_isTender_1 : decode cX9_isTender 1 = .ok (.iconst 0, 1) := by decide +kernel
theorem dX9_isTender_2 : decode cX9_isTender 2 = .ok (.aload_n 0, 1) := by decide +kernel
theorem dX9_isTender_3 : decode cX9_isTender 3 = .ok (.getfield 101, 3) := by decide +kernel
theorem dX9_isTender_6 : decode cX9_isTender 6 = .ok (.iconst 1, 1) := by decide +kernel
theorem dX9_isTender_7 : decode cX9_isTender 7 = .ok (.isub, 1) := by decide +kernel
theorem dX9_isTender_8 : decode cX9_isTender 8 = .ok (.invokestatic 97, 3) := by decide +kernel
theorem dX9_isTender_11 : decode cX9_isTender 11 = .ok (.ireturn, 1) := by decide +kernel
set_option maxRecDepth 20000 in
theorem ggX9_isLot_X9_isTender : GoodIn wsX9_isLot wsX9_isTender := goodIn_r _ [6, 7, 8, 9, 5, 10, 11, 12, 13, 14, 15, 16, 17, 18, 19, 20, 21, 22, 23, 24, 25, 26, 27, 28, 29, 30, 31, 32, 33, 34, 35, 36, 37, 38, 39, 40, 41, 42, 43, 44, 45] (by decide +kernel) (by decide +kernel)
set_option maxRecDepth 20000 in
theorem gX9_isLot_X9_isTender : GoodIn wsX9_isLot (wsV RX9 104 RX9 yX9_isTender wsX9_isTender) := goodIn_app (goodIn_of _ (by decide +kernel)) ggX9_isLot_X9_isTender
set_option maxRecDepth 20000 in
theorem ggX9_isLot_X9_in : GoodIn wsX9_isLot wsX9_in := goodIn_r _ [10] (by decide +kernel) (by decide +kernel)
set_option maxRecDepth 20000 in
theorem gX9_isLot_X9_in : GoodIn wsX9_isLot (va_wsS RX9 97 yX9_in wsX9_in) := goodIn_app (goodIn_of _ (by decide +kernel)) ggX9_isLot_X9_in
theorem dX9_isLot_0 : decode cX9_isLot 0 = .ok (.aload_n 0, 1) := by decide +kernel
theorem dX9_isLot_1 : decode cX9_isLot 1 = .ok (.iload_n 1, 1) := by decide +kernel
theorem dX9_isLot_2 : decode cX9_isLot 2 = .ok (.invokevirtual 104, 3) := by decide +kernel
theorem dX9_isLot_5 : decode cX9_isLot 5 = .ok (.ifCond .eq 23, 3) := by decide +kernel
theorem dX9_isLot_8 : decode cX9_isLot 8 = .ok (.iload_n 2, 1) := by decide +kernel
theorem dX9_isLot_9 : decode cX9_isLot 9 = .ok (.iconst 0, 1) := by decide +kernel
theorem dX9_isLot_10 : decode cX9_isLot 10 = .ok (.aload_n 0, 1) := by decide +kernel
theorem dX9_isLot_11 : decode cX9_isLot 11 = .ok (.getfield 25, 3) := by decide +kernel
theorem dX9_isLot_14 : decode cX9_isLot 14 = .ok (.iload_n 1, 1) := by decide +kernel
theorem dX9_isLot_15 : decode cX9_isLot 15 = .ok (.iaload, 1) := by decide +kernel
theorem dX9_isLot_16 : decode cX9_isLot 16 = .ok (.iconst 1, 1) := by decide +kernel
theorem dX9_isLot_17 : decode cX9_isLot 17 = .ok (.isub, 1) := by decide +kernel
theorem dX9_isLot_18 : decode cX9_isLot 18 = .ok (.invokestatic 97, 3) := by decide +kernel
theorem dX9_isLot_21 : decode cX9_isLot 21 = .ok (.ifCond .eq 7, 3) := by decide +kernel
theorem dX9_isLot_24 : decode cX9_isLot 24 = .ok (.iconst 1, 1) := by decide +kernel
theorem dX9_isLot_25 : decode cX9_isLot 25 = .ok (.goto 4, 3) := by decide +kernel
theorem dX9_isLot_28 : decode cX9_isLot 28 = .ok (.iconst 0, 1) := by decide +kernel
theorem dX9_isLot_29 : decode cX9_isLot 29 = .ok (.ireturn, 1) := by decide +kernel
theorem dX9_isOpened_0 : decode cX9_isOpened 0 = .ok (.aload_n 0, 1) := by decide +kernel
theorem dX9_isOpened_1 : decode cX9_isOpened 1 = .ok (.getfield 108, 3) := by decide +kernel
theorem dX9_isOpened_4 : decode cX9_isOpened 4 = .ok (.aload_n 0, 1) := by decide +kernel
theorem dX9_isOpened_5 : decode cX9_isOpened 5 = .ok (.getfield 13, 3) := by decide +kernel
theorem dX9_isOpened_8 : decode cX9_isOpened 8 = .ok (.iload_n 1, 1) := by decide +kernel
theorem dX9_isOpened_9 : decode cX9_isOpened 9 = .ok (.iaload, 1) := by decide +kernel
theorem dX9_isOpened_10 : decode cX9_isOpened 10 = .ok (.if_icmp .lt 7, 3) := by decide +kernel
theorem dX9_isOpened_13 : decode cX9_isOpened 13 = .ok (.iconst 1, 1) := by decide +kernel
theorem dX9_isOpened_14 : decode cX9_isOpened 14 = .ok (.goto 4, 3) := by decide +kernel
theorem dX9_isOpened_17 : decode cX9_isOpened 17 = .ok (.iconst 0, 1) := by decide +kernel
theorem dX9_isOpened_18 : decode cX9_isOpened 18 = .ok (.ireturn, 1) := by decide +kernel
set_option maxRecDepth 20000 in
theorem ggX9_addTender_X9_in : GoodIn wsX9_addTender wsX9_in := goodIn_r _ [11] (by decide +kernel) (by decide +kernel)
set_option maxRecDepth 20000 in
theorem gX9_addTender_X9_in : GoodIn wsX9_addTender (va_wsS RX9 97 yX9_in wsX9_in) := goodIn_app (goodIn_of _ (by decide +kernel)) ggX9_addTender_X9_in
theorem dX9_addTender_0 : decode cX9_addTender 0 = .ok (.iload_n 1, 1) := by decide +kernel
theorem dX9_addTender_1 : decode cX9_addTender 1 = .ok (.aload_n 0, 1) := by decide +kernel
theorem dX9_addTender_2 : decode cX9_addTender 2 = .ok (.getfield 108, 3) := by decide +kernel
theorem dX9_addTender_5 : decode cX9_addTender 5 = .ok (.iconst 1, 1) := by decide +kernel
theorem dX9_addTender_6 : decode cX9_addTender 6 = .ok (.iadd, 1) := by decide +kernel
theorem dX9_addTender_7 : decode cX9_addTender 7 = .ok (.sipush 1000, 3) := by decide +kernel
theorem dX9_addTender_10 : decode cX9_addTender 10 = .ok (.invokestatic 97, 3) := by decide +kernel
theorem dX9_addTender_13 : decode cX9_addTender 13 = .ok (.ifCond .eq 38, 3) := by decide +kernel
theorem dX9_addTender_16 : decode cX9_addTender 16 = .ok (.iload_n 2, 1) := by decide +kernel
theorem dX9_addTender_17 : decode cX9_addTender 17 = .ok (.iconst 0, 1) := by decide +kernel
theorem dX9_addTender_18 : decode cX9_addTender 18 = .ok (.bipush 63, 2) := by decide +kernel
theorem dX9_addTender_20 : decode cX9_addTender 20 = .ok (.invokestatic 97, 3) := by decide +kernel
theorem dX9_addTender_23 : decode cX9_addTender 23 = .ok (.ifCond .eq 28, 3) := by decide +kernel
theorem dX9_addTender_26 : decode cX9_addTender 26 = .ok (.iload_n 3, 1) := by decide +kernel
theorem dX9_addTender_27 : decode cX9_addTender 27 = .ok (.iconst 0, 1) := by decide +kernel
theorem dX9_addTender_28 : decode cX9_addTender 28 = .ok (.bipush 100, 2) := by decide +kernel
theorem dX9_addTender_30 : decode cX9_addTender 30 = .ok (.invokestatic 97, 3) := by decide +kernel
theorem dX9_addTender_33 : decode cX9_addTender 33 = .ok (.ifCond .eq 18, 3) := by decide +kernel
theorem dX9_addTender_36 : decode cX9_addTender 36 = .ok (.iload 4, 2) := by decide +kernel
theorem dX9_addTender_38 : decode cX9_addTender 38 = .ok (.iconst 0, 1) := by decide +kernel
theorem dX9_addTender_39 : decode cX9_addTender 39 = .ok (.bipush 30, 2) := by decide +kernel
theorem dX9_addTender_41 : decode cX9_addTender 41 = .ok (.invokestatic 97, 3) := by decide +kernel
theorem dX9_addTender_44 : decode cX9_addTender 44 = .ok (.ifCond .eq 7, 3) := by decide +kernel
theorem dX9_addTender_47 : decode cX9_addTender 47 = .ok (.iconst 1, 1) := by decide +kernel
theorem dX9_addTender_48 : decode cX9_addTender 48 = .ok (.goto 4, 3) := by decide +kernel
theorem dX9_addTender_51 : decode cX9_addTender 51 = .ok (.iconst 0, 1) := by decide +kernel
theorem dX9_addTender_52 : decode cX9_addTender 52 = .ok (.istore 5, 2) := by decide +kernel
theorem dX9_addTender_54 : decode cX9_addTender 54 = .ok (.aload_n 0, 1) := by decide +kernel
theorem dX9_addTender_55 : decode cX9_addTender 55 = .ok (.iload 5, 2) := by decide +kernel
theorem dX9_addTender_57 : decode cX9_addTender 57 = .ok (.ifCond .ne 7, 3) := by decide +kernel
theorem dX9_addTender_60 : decode cX9_addTender 60 = .ok (.iconst 1, 1) := by decide +kernel
theorem dX9_addTender_61 : decode cX9_addTender 61 = .ok (.goto 17, 3) := by decide +kernel
theorem dX9_addTender_64 : decode cX9_addTender 64 = .ok (.aload_n 0, 1) := by decide +kernel
theorem dX9_addTender_65 : decode cX9_addTender 65 = .ok (.getfield 101, 3) := by decide +kernel
theorem dX9_addTender_68 : decode cX9_addTender 68 = .ok (.bipush 6, 2) := by decide +kernel
theorem dX9_addTender_70 : decode cX9_addTender 70 = .ok (.if_icmp .ne 7, 3) := by decide +kernel
theorem dX9_addTender_73 : decode cX9_addTender 73 = .ok (.iconst 2, 1) := by decide +kernel
theorem dX9_addTender_74 : decode cX9_addTender 74 = .ok (.goto 4, 3) := by decide +kernel
theorem dX9_addTender_77 : decode cX9_addTender 77 = .ok (.iconst 0, 1) := by decide +kernel
theorem dX9_addTender_78 : decode cX9_addTender 78 = .ok (.putfield 93, 3) := by decide +kernel
theorem dX9_addTender_81 : decode cX9_addTender 81 = .ok (.aload_n 0, 1) := by decide +kernel
theorem dX9_addTender_82 : decode cX9_addTender 82 = .ok (.getfield 93, 3) := by decide +kernel
theorem dX9_addTender_85 : decode cX9_addTender 85 = .ok (.ifCond .le 5, 3) := by decide +kernel
theorem dX9_addTender_88 : decode cX9_addTender 88 = .ok (.iconst 0, 1) := by decide +kernel
theorem dX9_addTender_89 : decode cX9_addTender 89 = .ok (.ireturn, 1) := by decide +kernel
theorem dX9_addTender_90 : decode cX9_addTender 90 = .ok (.aload_n 0, 1) := by decide +kernel
theorem dX9_addTender_91 : decode cX9_addTender 91 = .ok (.getfield 13, 3) := by decide +kernel
theorem dX9_addTender_94 : decode cX9_addTender 94 = .ok (.aload_n 0, 1) := by decide +kernel
theorem dX9_addTender_95 : decode cX9_addTender 95 = .ok (.getfield 101, 3) := by decide +kernel
theorem dX9_addTender_98 : decode cX9_addTender 98 = .ok (.iload_n 1, 1) := by decide +kernel
theorem dX9_addTender_99 : decode cX9_addTender 99 = .ok (.iastore, 1) := by decide +kernel
theorem dX9_addTender_100 : decode cX9_addTender 100 = .ok (.aload_n 0, 1) := by decide +kernel
theorem dX9_addTender_101 : decode cX9_addTender 101 = .ok (.getfield 16, 3) := by decide +kernel
theorem dX9_addTender_104 : decode cX9_addTender 104 = .ok (.aload_n 0, 1) := by decide +kernel
theorem dX9_addTender_105 : decode cX9_addTender 105 = .ok (.getfield 101, 3) := by decide +kernel
theorem dX9_addTender_108 : decode cX9_addTender 108 = .ok (.iload_n 2, 1) := by decide +kernel
theorem dX9_addTender_109 : decode cX9_addTender 109 = .ok (.iastore, 1) := by decide +kernel
theorem dX9_addTender_110 : decode cX9_addTender 110 = .ok (.aload_n 0, 1) := by decide +kernel
theorem dX9_addTender_111 : decode cX9_addTender 111 = .ok (.getfield 19, 3) := by decide +kernel
theorem dX9_addTender_114 : decode cX9_addTender 114 = .ok (.aload_n 0, 1) := by decide +kernel
theorem dX9_addTender_115 : decode cX9_addTender 115 = .ok (.getfield 101, 3) := by decide +kernel
theorem dX9_addTender_118 : decode cX9_addTender 118 = .ok (.iload_n 3, 1) := by decide +kernel
theorem dX9_addTender_119 : decode cX9_addTender 119 = .ok (.iastore, 1) := by decide +kernel
theorem dX9_addTender_120 : decode cX9_addTender 120 = .ok (.aload_n 0, 1) := by decide +kernel
theorem dX9_addTender_121 : decode cX9_addTender 121 = .ok (.getfield 22, 3) := by decide +kernel
theorem dX9_addTender_124 : decode cX9_addTender 124 = .ok (.aload_n 0, 1) := by decide +kernel
theorem dX9_addTender_125 : decode cX9_addTender 125 = .ok (.getfield 101, 3) := by decide +kernel
theorem dX9_addTender_128 : decode cX9_addTender 128 = .ok (.iload 4, 2) := by decide +kernel
theorem dX9_addTender_130 : decode cX9_addTender 130 = .ok (.iastore, 1) := by decide +kernel
theorem dX9_addTender_131 : decode cX9_addTender 131 = .ok (.aload_n 0, 1) := by decide +kernel
theorem dX9_addTender_132 : decode cX9_addTender 132 = .ok (.dup, 1) := by decide +kernel
theorem dX9_addTender_133 : decode cX9_addTender 133 = .ok (.getfield 101, 3) := by decide +kernel
theorem dX9_addTender_136 : decode cX9_addTender 136 = .ok (.iconst 1, 1) := by decide +kernel
theorem dX9_addTender_137 : decode cX9_addTender 137 = .ok (.iadd, 1) := by decide +kernel
theorem dX9_addTender_138 : decode cX9_addTender 138 = .ok (.putfield 101, 3) := by decide +kernel
theorem dX9_addTender_141 : decode cX9_addTender 141 = .ok (.aload_n 0, 1) := by decide +kernel
theorem dX9_addTender_142 : decode cX9_addTender 142 = .ok (.getfield 101, 3) := by decide +kernel
theorem dX9_addTender_145 : decode cX9_addTender 145 = .ok (.iconst 1, 1) := by decide +kernel
theorem dX9_addTender_146 : decode cX9_addTender 146 = .ok (.isub, 1) := by decide +kernel
theorem dX9_addTender_147 : decode cX9_addTender 147 = .ok (.ireturn, 1) := by decide +kernel
set_option maxRecDepth 20000 in
theorem ggX9_addLot_X9_isTender : GoodIn wsX9_addLot wsX9_isTender := goodIn_r _ [8, 9, 10, 11, 7, 12, 19, 20, 21, 22, 23, 24, 25, 26, 27, 28, 29, 30, 31, 32, 33, 34, 35, 36, 37, 38, 39, 40, 41, 42, 43, 44, 45, 46, 47, 48, 49, 50, 51, 52, 53] (by decide +kernel) (by decide +kernel)
set_option maxRecDepth 20000 in
theorem gX9_addLot_X9_isTender : GoodIn wsX9_addLot (wsV RX9 104 RX9 yX9_isTender wsX9_isTender) := goodIn_app (goodIn_of _ (by decide +kernel)) ggX9_addLot_X9_isTender
set_option maxRecDepth 20000 in
theorem ggX9_addLot_X9_in : GoodIn wsX9_addLot wsX9_in := goodIn_r _ [12] (by decide +kernel) (by decide +kernel)
set_option maxRecDepth 20000 in
theorem gX9_addLot_X9_in : GoodIn wsX9_addLot (va_wsS RX9 97 yX9_in wsX9_in) := goodIn_app (goodIn_of _ (by decide +kernel)) ggX9_addLot_X9_in
set_option maxRecDepth 20000 in
theorem ggX9_addLot_X9_isOpened : GoodIn wsX9_addLot wsX9_isOpened := goodIn_r _ [16, 17, 18, 19, 20, 21, 22, 23, 24, 25, 26, 27, 28, 29, 30, 31, 32, 33, 34, 35, 36, 37, 38, 39, 40, 41, 42, 43, 44, 45, 46, 47, 48, 49, 50, 51, 52, 53] (by decide +kernel) (by decide +kernel)
set_option maxRecDepth 20000 in
theorem gX9_addLot_X9_isOpened : GoodIn wsX9_addLot (wsV RX9 111 RX9 yX9_isOpened wsX9_isOpened) := goodIn_app (goodIn_of _ (by decide +kernel)) ggX9_addLot_X9_isOpened
theorem dX9_addLot_0 : decode cX9_addLot 0 = .ok (.aload_n 0, 1) := by decide +kernel
theorem dX9_addLot_1 : decode cX9_addLot 1 = .ok (.aload_n 0, 1) := by decide +kernel
theorem dX9_addLot_2 : decode cX9_addLot 2 = .ok (.iload_n 1, 1) := by decide +kernel
theorem dX9_addLot_3 : decode cX9_addLot 3 = .ok (.invokevirtual 104, 3) := by decide +kernel
theorem dX9_addLot_6 : decode cX9_addLot 6 = .ok (.ifCond .ne 7, 3) := by decide +kernel
theorem dX9_addLot_9 : decode cX9_addLot 9 = .ok (.iconst 1, 1) := by decide +kernel
theorem dX9_addLot_10 : decode cX9_addLot 10 = .ok (.goto 41, 3) := by decide +kernel
theorem dX9_addLot_13 : decode cX9_addLot 13 = .ok (.iload_n 2, 1) := by decide +kernel
theorem dX9_addLot_14 : decode cX9_addLot 14 = .ok (.iconst 0, 1) := by decide +kernel
theorem dX9_addLot_15 : decode cX9_addLot 15 = .ok (.sipush 10000, 3) := by decide +kernel
theorem dX9_addLot_18 : decode cX9_addLot 18 = .ok (.invokestatic 97, 3) := by decide +kernel
theorem dX9_addLot_21 : decode cX9_addLot 21 = .ok (.ifCond .ne 7, 3) := by decide +kernel
theorem dX9_addLot_24 : decode cX9_addLot 24 = .ok (.iconst 2, 1) := by decide +kernel
theorem dX9_addLot_25 : decode cX9_addLot 25 = .ok (.goto 26, 3) := by decide +kernel
theorem dX9_addLot_28 : decode cX9_addLot 28 = .ok (.aload_n 0, 1) := by decide +kernel
theorem dX9_addLot_29 : decode cX9_addLot 29 = .ok (.getfield 25, 3) := by decide +kernel
theorem dX9_addLot_32 : decode cX9_addLot 32 = .ok (.iload_n 1, 1) := by decide +kernel
theorem dX9_addLot_33 : decode cX9_addLot 33 = .ok (.iaload, 1) := by decide +kernel
theorem dX9_addLot_34 : decode cX9_addLot 34 = .ok (.iconst 3, 1) := by decide +kernel
theorem dX9_addLot_35 : decode cX9_addLot 35 = .ok (.if_icmp .eq 11, 3) := by decide +kernel
theorem dX9_addLot_38 : decode cX9_addLot 38 = .ok (.aload_n 0, 1) := by decide +kernel
theorem dX9_addLot_39 : decode cX9_addLot 39 = .ok (.iload_n 1, 1) := by decide +kernel
theorem dX9_addLot_40 : decode cX9_addLot 40 = .ok (.invokevirtual 111, 3) := by decide +kernel
theorem dX9_addLot_43 : decode cX9_addLot 43 = .ok (.ifCond .eq 7, 3) := by decide +kernel
theorem dX9_addLot_46 : decode cX9_addLot 46 = .ok (.iconst 3, 1) := by decide +kernel
theorem dX9_addLot_47 : decode cX9_addLot 47 = .ok (.goto 4, 3) := by decide +kernel
theorem dX9_addLot_50 : decode cX9_addLot 50 = .ok (.iconst 0, 1) := by decide +kernel
theorem dX9_addLot_51 : decode cX9_addLot 51 = .ok (.putfield 93, 3) := by decide +kernel
theorem dX9_addLot_54 : decode cX9_addLot 54 = .ok (.aload_n 0, 1) := by decide +kernel
theorem dX9_addLot_55 : decode cX9_addLot 55 = .ok (.getfield 93, 3) := by decide +kernel
theorem dX9_addLot_58 : decode cX9_addLot 58 = .ok (.ifCond .le 5, 3) := by decide +kernel
theorem dX9_addLot_61 : decode cX9_addLot 61 = .ok (.iconst 0, 1) := by decide +kernel
theorem dX9_addLot_62 : decode cX9_addLot 62 = .ok (.ireturn, 1) := by decide +kernel
theorem dX9_addLot_63 : decode cX9_addLot 63 = .ok (.aload_n 0, 1) := by decide +kernel
theorem dX9_addLot_64 : decode cX9_addLot 64 = .ok (.getfield 28, 3) := by decide +kernel
theorem dX9_addLot_67 : decode cX9_addLot 67 = .ok (.iconst 3, 1) := by decide +kernel
theorem dX9_addLot_68 : decode cX9_addLot 68 = .ok (.iload_n 1, 1) := by decide +kernel
theorem dX9_addLot_69 : decode cX9_addLot 69 = .ok (.imul, 1) := by decide +kernel
theorem dX9_addLot_70 : decode cX9_addLot 70 = .ok (.aload_n 0, 1) := by decide +kernel
theorem dX9_addLot_71 : decode cX9_addLot 71 = .ok (.getfield 25, 3) := by decide +kernel
theorem dX9_addLot_74 : decode cX9_addLot 74 = .ok (.iload_n 1, 1) := by decide +kernel
theorem dX9_addLot_75 : decode cX9_addLot 75 = .ok (.iaload, 1) := by decide +kernel
theorem dX9_addLot_76 : decode cX9_addLot 76 = .ok (.iadd, 1) := by decide +kernel
theorem dX9_addLot_77 : decode cX9_addLot 77 = .ok (.iload_n 2, 1) := by decide +kernel
theorem dX9_addLot_78 : decode cX9_addLot 78 = .ok (.iastore, 1) := by decide +kernel
theorem dX9_addLot_79 : decode cX9_addLot 79 = .ok (.aload_n 0, 1) := by decide +kernel
theorem dX9_addLot_80 : decode cX9_addLot 80 = .ok (.getfield 25, 3) := by decide +kernel
theorem dX9_addLot_83 : decode cX9_addLot 83 = .ok (.iload_n 1, 1) := by decide +kernel
theorem dX9_addLot_84 : decode cX9_addLot 84 = .ok (.dup2, 1) := by decide +kernel
theorem dX9_addLot_85 : decode cX9_addLot 85 = .ok (.iaload, 1) := by decide +kernel
theorem dX9_addLot_86 : decode cX9_addLot 86 = .ok (.iconst 1, 1) := by decide +kernel
theorem dX9_addLot_87 : decode cX9_addLot 87 = .ok (.iadd, 1) := by decide +kernel
theorem dX9_addLot_88 : decode cX9_addLot 88 = .ok (.iastore, 1) := by decide +kernel
theorem dX9_addLot_89 : decode cX9_addLot 89 = .ok (.aload_n 0, 1) := by decide +kernel
theorem dX9_addLot_90 : decode cX9_addLot 90 = .ok (.getfield 25, 3) := by decide +kernel
theorem dX9_addLot_93 : decode cX9_addLot 93 = .ok (.iload_n 1, 1) := by decide +kernel
theorem dX9_addLot_94 : decode cX9_addLot 94 = .ok (.iaload, 1) := by decide +kernel
theorem dX9_addLot_95 : decode cX9_addLot 95 = .ok (.iconst 1, 1) := by decide +kernel
theorem dX9_addLot_96 : decode cX9_addLot 96 = .ok (.isub, 1) := by decide +kernel
theorem dX9_addLot_97 : decode cX9_addLot 97 = .ok (.ireturn, 1) := by decide +kernel
set_option maxRecDepth 20000 in
theorem ggX9_paper_X9_isBidder : GoodIn wsX9_paper wsX9_isBidder := goodIn_r _ [6, 7, 8, 5, 9] (by decide +kernel) (by decide +kernel)
set_option maxRecDepth 20000 in
theorem gX9_paper_X9_isBidder : GoodIn wsX9_paper (va_wsS RX9 114 yX9_isBidder wsX9_isBidder) := goodIn_app (goodIn_of _ (by decide +kernel)) ggX9_paper_X9_isBidder
set_option maxRecDepth 20000 in
theorem ggX9_paper_X9_in : GoodIn wsX9_paper wsX9_in := goodIn_r _ [9] (by decide +kernel) (by decide +kernel)
set_option maxRecDepth 20000 in
theorem gX9_paper_X9_in : GoodIn wsX9_paper (va_wsS RX9 97 yX9_in wsX9_in) := goodIn_app (goodIn_of _ (by decide +kernel)) ggX9_paper_X9_in
theorem dX9_paper_0 : decode cX9_paper 0 = .ok (.aload_n 0, 1) := by decide +kernel
theorem dX9_paper_1 : decode cX9_paper 1 = .ok (.iload_n 1, 1) := by decide +kernel
theorem dX9_paper_2 : decode cX9_paper 2 = .ok (.invokestatic 114, 3) := by decide +kernel
theorem dX9_paper_5 : decode cX9_paper 5 = .ok (.ifCond .eq 12, 3) := by decide +kernel
theorem dX9_paper_8 : decode cX9_paper 8 = .ok (.iload_n 2, 1) := by decide +kernel
theorem dX9_paper_9 : decode cX9_paper 9 = .ok (.iconst 0, 1) := by decide +kernel
theorem dX9_paper_10 : decode cX9_paper 10 = .ok (.iconst 5, 1) := by decide +kernel
theorem dX9_paper_11 : decode cX9_paper 11 = .ok (.invokestatic 97, 3) := by decide +kernel
theorem dX9_paper_14 : decode cX9_paper 14 = .ok (.ifCond .ne 7, 3) := by decide +kernel
theorem dX9_paper_17 : decode cX9_paper 17 = .ok (.iconst 1, 1) := by decide +kernel
theorem dX9_paper_18 : decode cX9_paper 18 = .ok (.goto 19, 3) := by decide +kernel
theorem dX9_paper_21 : decode cX9_paper 21 = .ok (.iload_n 3, 1) := by decide +kernel
theorem dX9_paper_22 : decode cX9_paper 22 = .ok (.iconst (-1), 1) := by decide +kernel
theorem dX9_paper_23 : decode cX9_paper 23 = .ok (.sipush 2000, 3) := by decide +kernel
theorem dX9_paper_26 : decode cX9_paper 26 = .ok (.invokestatic 97, 3) := by decide +kernel
theorem dX9_paper_29 : decode cX9_paper 29 = .ok (.ifCond .eq 7, 3) := by decide +kernel
theorem dX9_paper_32 : decode cX9_paper 32 = .ok (.iconst 0, 1) := by decide +kernel
theorem dX9_paper_33 : decode cX9_paper 33 = .ok (.goto 4, 3) := by decide +kernel
theorem dX9_paper_36 : decode cX9_paper 36 = .ok (.iconst 2, 1) := by decide +kernel
theorem dX9_paper_37 : decode cX9_paper 37 = .ok (.putfield 93, 3) := by decide +kernel
theorem dX9_paper_40 : decode cX9_paper 40 = .ok (.aload_n 0, 1) := by decide +kernel
theorem dX9_paper_41 : decode cX9_paper 41 = .ok (.getfield 93, 3) := by decide +kernel
theorem dX9_paper_44 : decode cX9_paper 44 = .ok (.ifCond .le 5, 3) := by decide +kernel
theorem dX9_paper_47 : decode cX9_paper 47 = .ok (.iconst 0, 1) := by decide +kernel
theorem dX9_paper_48 : decode cX9_paper 48 = .ok (.ireturn, 1) := by decide +kernel
theorem dX9_paper_49 : decode cX9_paper 49 = .ok (.aload_n 0, 1) := by decide +kernel
theorem dX9_paper_50 : decode cX9_paper 50 = .ok (.getfield 7, 3) := by decide +kernel
theorem dX9_paper_53 : decode cX9_paper 53 = .ok (.bipush 6, 2) := by decide +kernel
theorem dX9_paper_55 : decode cX9_paper 55 = .ok (.iload_n 1, 1) := by decide +kernel
theorem dX9_paper_56 : decode cX9_paper 56 = .ok (.imul, 1) := by decide +kernel
theorem dX9_paper_57 : decode cX9_paper 57 = .ok (.iload_n 2, 1) := by decide +kernel
theorem dX9_paper_58 : decode cX9_paper 58 = .ok (.iadd, 1) := by decide +kernel
theorem dX9_paper_59 : decode cX9_paper 59 = .ok (.iaload, 1) := by decide +kernel
theorem dX9_paper_60 : decode cX9_paper 60 = .ok (.iconst 1, 1) := by decide +kernel
theorem dX9_paper_61 : decode cX9_paper 61 = .ok (.isub, 1) := by decide +kernel
theorem dX9_paper_62 : decode cX9_paper 62 = .ok (.istore 4, 2) := by decide +kernel
theorem dX9_paper_64 : decode cX9_paper 64 = .ok (.aload_n 0, 1) := by decide +kernel
theorem dX9_paper_65 : decode cX9_paper 65 = .ok (.getfield 7, 3) := by decide +kernel
theorem dX9_paper_68 : decode cX9_paper 68 = .ok (.bipush 6, 2) := by decide +kernel
theorem dX9_paper_70 : decode cX9_paper 70 = .ok (.iload_n 1, 1) := by decide +kernel
theorem dX9_paper_71 : decode cX9_paper 71 = .ok (.imul, 1) := by decide +kernel
theorem dX9_paper_72 : decode cX9_paper 72 = .ok (.iload_n 2, 1) := by decide +kernel
theorem dX9_paper_73 : decode cX9_paper 73 = .ok (.iadd, 1) := by decide +kernel
theorem dX9_paper_74 : decode cX9_paper 74 = .ok (.iload_n 3, 1) := by decide +kernel
theorem dX9_paper_75 : decode cX9_paper 75 = .ok (.iconst 1, 1) := by decide +kernel
theorem dX9_paper_76 : decode cX9_paper 76 = .ok (.iadd, 1) := by decide +kernel
theorem dX9_paper_77 : decode cX9_paper 77 = .ok (.iastore, 1) := by decide +kernel
theorem dX9_paper_78 : decode cX9_paper 78 = .ok (.iload 4, 2) := by decide +kernel
theorem dX9_paper_80 : decode cX9_paper 80 = .ok (.ireturn, 1) := by decide +kernel
theorem dX9_bidsFor_0 : decode cX9_bidsFor 0 = .ok (.iconst 0, 1) := by decide +kernel
theorem dX9_bidsFor_1 : decode cX9_bidsFor 1 = .ok (.istore_n 2, 1) := by decide +kernel
theorem dX9_bidsFor_2 : decode cX9_bidsFor 2 = .ok (.iconst 0, 1) := by decide +kernel
theorem dX9_bidsFor_3 : decode cX9_bidsFor 3 = .ok (.istore_n 3, 1) := by decide +kernel
theorem dX9_bidsFor_4 : decode cX9_bidsFor 4 = .ok (.iload_n 3, 1) := by decide +kernel
theorem dX9_bidsFor_5 : decode cX9_bidsFor 5 = .ok (.bipush 8, 2) := by decide +kernel
theorem dX9_bidsFor_7 : decode cX9_bidsFor 7 = .ok (.if_icmp .ge 31, 3) := by decide +kernel
theorem dX9_bidsFor_10 : decode cX9_bidsFor 10 = .ok (.iload_n 2, 1) := by decide +kernel
theorem dX9_bidsFor_11 : decode cX9_bidsFor 11 = .ok (.aload_n 0, 1) := by decide +kernel
theorem dX9_bidsFor_12 : decode cX9_bidsFor 12 = .ok (.getfield 31, 3) := by decide +kernel
theorem dX9_bidsFor_15 : decode cX9_bidsFor 15 = .ok (.bipush 8, 2) := by decide +kernel
theorem dX9_bidsFor_17 : decode cX9_bidsFor 17 = .ok (.iload_n 1, 1) := by decide +kernel
theorem dX9_bidsFor_18 : decode cX9_bidsFor 18 = .ok (.imul, 1) := by decide +kernel
theorem dX9_bidsFor_19 : decode cX9_bidsFor 19 = .ok (.iload_n 3, 1) := by decide +kernel
theorem dX9_bidsFor_20 : decode cX9_bidsFor 20 = .ok (.iadd, 1) := by decide +kernel
theorem dX9_bidsFor_21 : decode cX9_bidsFor 21 = .ok (.iaload, 1) := by decide +kernel
theorem dX9_bidsFor_22 : decode cX9_bidsFor 22 = .ok (.ifCond .le 7, 3) := by decide +kernel
theorem dX9_bidsFor_25 : decode cX9_bidsFor 25 = .ok (.iconst 1, 1) := by decide +kernel
theorem dX9_bidsFor_26 : decode cX9_bidsFor 26 = .ok (.goto 4, 3) := by decide +kernel
theorem dX9_bidsFor_29 : decode cX9_bidsFor 29 = .ok (.iconst 0, 1) := by decide +kernel
theorem dX9_bidsFor_30 : decode cX9_bidsFor 30 = .ok (.iadd, 1) := by decide +kernel
theorem dX9_bidsFor_31 : decode cX9_bidsFor 31 = .ok (.istore_n 2, 1) := by decide +kernel
theorem dX9_bidsFor_32 : decode cX9_bidsFor 32 = .ok (.iinc 3 1, 3) := by decide +kernel
theorem dX9_bidsFor_35 : decode cX9_bidsFor 35 = .ok (.goto (-31), 3) := by decide +kernel
theorem dX9_bidsFor_38 : decode cX9_bidsFor 38 = .ok (.iload_n 2, 1) := by decide +kernel
theorem dX9_bidsFor_39 : decode cX9_bidsFor 39 = .ok (.ireturn, 1) := by decide +kernel
set_option maxRecDepth 20000 in
theorem ggX9_bid_X9_in : GoodIn wsX9_bid wsX9_in := goodIn_r _ [10] (by decide +kernel) (by decide +kernel)
set_option maxRecDepth 20000 in
theorem gX9_bid_X9_in : GoodIn wsX9_bid (va_wsS RX9 97 yX9_in wsX9_in) := goodIn_app (goodIn_of _ (by decide +kernel)) ggX9_bid_X9_in
set_option maxRecDepth 20000 in
theorem ggX9_bid_X9_isBidder : GoodIn wsX9_bid wsX9_isBidder := goodIn_r _ [13, 7, 8, 9, 10] (by decide +kernel) (by decide +kernel)
set_option maxRecDepth 20000 in
theorem gX9_bid_X9_isBidder : GoodIn wsX9_bid (va_wsS RX9 114 yX9_isBidder wsX9_isBidder) := goodIn_app (goodIn_of _ (by decide +kernel)) ggX9_bid_X9_isBidder
set_option maxRecDepth 20000 in
theorem ggX9_bid_X9_isLot : GoodIn wsX9_bid wsX9_isLot := goodIn_r _ [17, 18, 19, 20, 21, 9, 22, 23, 7, 8, 10, 34, 35, 36, 37, 38, 39, 40, 41, 42, 43, 44, 45, 46, 47, 48, 49, 50, 51, 52, 53, 54, 55, 56, 57, 58, 59, 60, 61, 62, 63, 64, 65, 66, 67, 68] (by decide +kernel) (by decide +kernel)
set_option maxRecDepth 20000 in
theorem gX9_bid_X9_isLot : GoodIn wsX9_bid (wsV RX9 118 RX9 yX9_isLot wsX9_isLot) := goodIn_app (goodIn_of _ (by decide +kernel)) ggX9_bid_X9_isLot
set_option maxRecDepth 20000 in
theorem ggX9_bid_X9_isOpened : GoodIn wsX9_bid wsX9_isOpened := goodIn_r _ [27, 28, 29, 34, 35, 36, 37, 38, 39, 40, 41, 42, 43, 44, 45, 46, 47, 48, 49, 50, 51, 52, 53, 54, 55, 56, 57, 58, 59, 60, 61, 62, 63, 64, 65, 66, 67, 68] (by decide +kernel) (by decide +kernel)
set_option maxRecDepth 20000 in
theorem gX9_bid_X9_isOpened : GoodIn wsX9_bid (wsV RX9 111 RX9 yX9_isOpened wsX9_isOpened) := goodIn_app (goodIn_of _ (by decide +kernel)) ggX9_bid_X9_isOpened
set_option maxRecDepth 20000 in
theorem ggX9_bid_X9_bidsFor : GoodIn wsX9_bid wsX9_bidsFor := goodIn_r _ [33, 3, 34, 35, 36, 37, 38, 39, 40, 41, 42, 43, 44, 45, 46, 47, 48, 49, 50, 51, 52, 53, 54, 55, 56, 57, 58, 59, 60, 61, 62, 63, 64, 65, 66, 67, 68] (by decide +kernel) (by decide +kernel)
set_option maxRecDepth 20000 in
theorem gX9_bid_X9_bidsFor : GoodIn wsX9_bid (wsV RX9 125 RX9 yX9_bidsFor wsX9_bidsFor) := goodIn_app (goodIn_of _ (by decide +kernel)) ggX9_bid_X9_bidsFor
theorem dX9_bid_0 : decode cX9_bid 0 = .ok (.iload 4, 2) := by decide +kernel
theorem dX9_bid_2 : decode cX9_bid 2 = .ok (.iconst 1, 1) := by decide +kernel
theorem dX9_bid_3 : decode cX9_bid 3 = .ok (.ldc 117, 2) := by decide +kernel
theorem dX9_bid_5 : decode cX9_bid 5 = .ok (.invokestatic 97, 3) := by decide +kernel
theorem dX9_bid_8 : decode cX9_bid 8 = .ok (.ifCond .eq 18, 3) := by decide +kernel
theorem dX9_bid_11 : decode cX9_bid 11 = .ok (.iload 5, 2) := by decide +kernel
theorem dX9_bid_13 : decode cX9_bid 13 = .ok (.iconst 0, 1) := by decide +kernel
theorem dX9_bid_14 : decode cX9_bid 14 = .ok (.bipush 100, 2) := by decide +kernel
theorem dX9_bid_16 : decode cX9_bid 16 = .ok (.invokestatic 97, 3) := by decide +kernel
theorem dX9_bid_19 : decode cX9_bid 19 = .ok (.ifCond .eq 7, 3) := by decide +kernel
theorem dX9_bid_22 : decode cX9_bid 22 = .ok (.iconst 1, 1) := by decide +kernel
theorem dX9_bid_23 : decode cX9_bid 23 = .ok (.goto 4, 3) := by decide +kernel
theorem dX9_bid_26 : decode cX9_bid 26 = .ok (.iconst 0, 1) := by decide +kernel
theorem dX9_bid_27 : decode cX9_bid 27 = .ok (.istore 6, 2) := by decide +kernel
theorem dX9_bid_29 : decode cX9_bid 29 = .ok (.aload_n 0, 1) := by decide +kernel
theorem dX9_bid_30 : decode cX9_bid 30 = .ok (.iload_n 1, 1) := by decide +kernel
theorem dX9_bid_31 : decode cX9_bid 31 = .ok (.invokestatic 114, 3) := by decide +kernel
theorem dX9_bid_34 : decode cX9_bid 34 = .ok (.ifCond .eq 12, 3) := by decide +kernel
theorem dX9_bid_37 : decode cX9_bid 37 = .ok (.aload_n 0, 1) := by decide +kernel
theorem dX9_bid_38 : decode cX9_bid 38 = .ok (.iload_n 2, 1) := by decide +kernel
theorem dX9_bid_39 : decode cX9_bid 39 = .ok (.iload_n 3, 1) := by decide +kernel
theorem dX9_bid_40 : decode cX9_bid 40 = .ok (.invokevirtual 118, 3) := by decide +kernel
theorem dX9_bid_43 : decode cX9_bid 43 = .ok (.ifCond .ne 7, 3) := by decide +kernel
theorem dX9_bid_46 : decode cX9_bid 46 = .ok (.iconst 1, 1) := by decide +kernel
theorem dX9_bid_47 : decode cX9_bid 47 = .ok (.goto 25, 3) := by decide +kernel
theorem dX9_bid_50 : decode cX9_bid 50 = .ok (.iload 6, 2) := by decide +kernel
theorem dX9_bid_52 : decode cX9_bid 52 = .ok (.ifCond .ne 7, 3) := by decide +kernel
theorem dX9_bid_55 : decode cX9_bid 55 = .ok (.iconst 2, 1) := by decide +kernel
theorem dX9_bid_56 : decode cX9_bid 56 = .ok (.goto 16, 3) := by decide +kernel
theorem dX9_bid_59 : decode cX9_bid 59 = .ok (.aload_n 0, 1) := by decide +kernel
theorem dX9_bid_60 : decode cX9_bid 60 = .ok (.iload_n 2, 1) := by decide +kernel
theorem dX9_bid_61 : decode cX9_bid 61 = .ok (.invokevirtual 111, 3) := by decide +kernel
theorem dX9_bid_64 : decode cX9_bid 64 = .ok (.ifCond .eq 7, 3) := by decide +kernel
theorem dX9_bid_67 : decode cX9_bid 67 = .ok (.iconst 3, 1) := by decide +kernel
theorem dX9_bid_68 : decode cX9_bid 68 = .ok (.goto 4, 3) := by decide +kernel
theorem dX9_bid_71 : decode cX9_bid 71 = .ok (.iconst 0, 1) := by decide +kernel
theorem dX9_bid_72 : decode cX9_bid 72 = .ok (.putfield 93, 3) := by decide +kernel
theorem dX9_bid_75 : decode cX9_bid 75 = .ok (.aload_n 0, 1) := by decide +kernel
theorem dX9_bid_76 : decode cX9_bid 76 = .ok (.getfield 93, 3) := by decide +kernel
theorem dX9_bid_79 : decode cX9_bid 79 = .ok (.ifCond .le 5, 3) := by decide +kernel
theorem dX9_bid_82 : decode cX9_bid 82 = .ok (.iconst 0, 1) := by decide +kernel
theorem dX9_bid_83 : decode cX9_bid 83 = .ok (.ireturn, 1) := by decide +kernel
theorem dX9_bid_84 : decode cX9_bid 84 = .ok (.bipush 8, 2) := by decide +kernel
theorem dX9_bid_86 : decode cX9_bid 86 = .ok (.iconst 3, 1) := by decide +kernel
theorem dX9_bid_87 : decode cX9_bid 87 = .ok (.iload_n 2, 1) := by decide +kernel
theorem dX9_bid_88 : decode cX9_bid 88 = .ok (.imul, 1) := by decide +kernel
theorem dX9_bid_89 : decode cX9_bid 89 = .ok (.iload_n 3, 1) := by decide +kernel
theorem dX9_bid_90 : decode cX9_bid 90 = .ok (.iadd, 1) := by decide +kernel
theorem dX9_bid_91 : decode cX9_bid 91 = .ok (.imul, 1) := by decide +kernel
theorem dX9_bid_92 : decode cX9_bid 92 = .ok (.iload_n 1, 1) := by decide +kernel
theorem dX9_bid_93 : decode cX9_bid 93 = .ok (.iadd, 1) := by decide +kernel
theorem dX9_bid_94 : decode cX9_bid 94 = .ok (.istore 7, 2) := by decide +kernel
theorem dX9_bid_96 : decode cX9_bid 96 = .ok (.aload_n 0, 1) := by decide +kernel
theorem dX9_bid_97 : decode cX9_bid 97 = .ok (.getfield 31, 3) := by decide +kernel
theorem dX9_bid_100 : decode cX9_bid 100 = .ok (.iload 7, 2) := by decide +kernel
theorem dX9_bid_102 : decode cX9_bid 102 = .ok (.iload 4, 2) := by decide +kernel
theorem dX9_bid_104 : decode cX9_bid 104 = .ok (.iastore, 1) := by decide +kernel
theorem dX9_bid_105 : decode cX9_bid 105 = .ok (.aload_n 0, 1) := by decide +kernel
theorem dX9_bid_106 : decode cX9_bid 106 = .ok (.getfield 34, 3) := by decide +kernel
theorem dX9_bid_109 : decode cX9_bid 109 = .ok (.iload 7, 2) := by decide +kernel
theorem dX9_bid_111 : decode cX9_bid 111 = .ok (.iload 5, 2) := by decide +kernel
theorem dX9_bid_113 : decode cX9_bid 113 = .ok (.iastore, 1) := by decide +kernel
theorem dX9_bid_114 : decode cX9_bid 114 = .ok (.aload_n 0, 1) := by decide +kernel
theorem dX9_bid_115 : decode cX9_bid 115 = .ok (.getfield 37, 3) := by decide +kernel
theorem dX9_bid_118 : decode cX9_bid 118 = .ok (.iload 7, 2) := by decide +kernel
theorem dX9_bid_120 : decode cX9_bid 120 = .ok (.aload_n 0, 1) := by decide +kernel
theorem dX9_bid_121 : decode cX9_bid 121 = .ok (.getfield 122, 3) := by decide +kernel
theorem dX9_bid_124 : decode cX9_bid 124 = .ok (.iastore, 1) := by decide +kernel
theorem dX9_bid_125 : decode cX9_bid 125 = .ok (.aload_n 0, 1) := by decide +kernel
theorem dX9_bid_126 : decode cX9_bid 126 = .ok (.dup, 1) := by decide +kernel
theorem dX9_bid_127 : decode cX9_bid 127 = .ok (.getfield 122, 3) := by decide +kernel
theorem dX9_bid_130 : decode cX9_bid 130 = .ok (.iconst 1, 1) := by decide +kernel
theorem dX9_bid_131 : decode cX9_bid 131 = .ok (.iadd, 1) := by decide +kernel
theorem dX9_bid_132 : decode cX9_bid 132 = .ok (.putfield 122, 3) := by decide +kernel
theorem dX9_bid_135 : decode cX9_bid 135 = .ok (.aload_n 0, 1) := by decide +kernel
theorem dX9_bid_136 : decode cX9_bid 136 = .ok (.iconst 3, 1) := by decide +kernel
theorem dX9_bid_137 : decode cX9_bid 137 = .ok (.iload_n 2, 1) := by decide +kernel
theorem dX9_bid_138 : decode cX9_bid 138 = .ok (.imul, 1) := by decide +kernel
theorem dX9_bid_139 : decode cX9_bid 139 = .ok (.iload_n 3, 1) := by decide +kernel
theorem dX9_bid_140 : decode cX9_bid 140 = .ok (.iadd, 1) := by decide +kernel
theorem dX9_bid_141 : decode cX9_bid 141 = .ok (.invokevirtual 125, 3) := by decide +kernel
theorem dX9_bid_144 : decode cX9_bid 144 = .ok (.ireturn, 1) := by decide +kernel
set_option maxRecDepth 20000 in
theorem ggX9_withdraw_X9_isBidder : GoodIn wsX9_withdraw wsX9_isBidder := goodIn_r _ [6, 7, 8, 5, 9] (by decide +kernel) (by decide +kernel)
set_option maxRecDepth 20000 in
theorem gX9_withdraw_X9_isBidder : GoodIn wsX9_withdraw (va_wsS RX9 114 yX9_isBidder wsX9_isBidder) := goodIn_app (goodIn_of _ (by decide +kernel)) ggX9_withdraw_X9_isBidder
set_option maxRecDepth 20000 in
theorem ggX9_withdraw_X9_isLot : GoodIn wsX9_withdraw wsX9_isLot := goodIn_r _ [13, 14, 15, 16, 17, 5, 18, 19, 7, 8, 9, 26, 27, 28, 29, 30, 31, 32, 33, 34, 35, 36, 37, 38, 39, 40, 41, 42, 43, 44, 45, 46, 47, 48, 49, 50, 51, 52, 53, 54, 55, 56, 57, 58, 59, 60] (by decide +kernel) (by decide +kernel)
set_option maxRecDepth 20000 in
theorem gX9_withdraw_X9_isLot : GoodIn wsX9_withdraw (wsV RX9 118 RX9 yX9_isLot wsX9_isLot) := goodIn_app (goodIn_of _ (by decide +kernel)) ggX9_withdraw_X9_isLot
set_option maxRecDepth 20000 in
theorem ggX9_withdraw_X9_isOpened : GoodIn wsX9_withdraw wsX9_isOpened := goodIn_r _ [23, 24, 25, 26, 27, 28, 29, 30, 31, 32, 33, 34, 35, 36, 37, 38, 39, 40, 41, 42, 43, 44, 45, 46, 47, 48, 49, 50, 51, 52, 53, 54, 55, 56, 57, 58, 59, 60] (by decide +kernel) (by decide +kernel)
set_option maxRecDepth 20000 in
theorem gX9_withdraw_X9_isOpened : GoodIn wsX9_withdraw (wsV RX9 111 RX9 yX9_isOpened wsX9_isOpened) := goodIn_app (goodIn_of _ (by decide +kernel)) ggX9_withdraw_X9_isOpened
theorem dX9_withdraw_0 : decode cX9_withdraw 0 = .ok (.aload_n 0, 1) := by decide +kernel
theorem dX9_withdraw_1 : decode cX9_withdraw 1 = .ok (.iload_n 1, 1) := by decide +kernel
theorem dX9_withdraw_2 : decode cX9_withdraw 2 = .ok (.invokestatic 114, 3) := by decide +kernel
theorem dX9_withdraw_5 : decode cX9_withdraw 5 = .ok (.ifCond .eq 16, 3) := by decide +kernel
theorem dX9_withdraw_8 : decode cX9_withdraw 8 = .ok (.aload_n 0, 1) := by decide +kernel
theorem dX9_withdraw_9 : decode cX9_withdraw 9 = .ok (.iload_n 2, 1) := by decide +kernel
theorem dX9_withdraw_10 : decode cX9_withdraw 10 = .ok (.iload_n 3, 1) := by decide +kernel
theorem dX9_withdraw_11 : decode cX9_withdraw 11 = .ok (.invokevirtual 118, 3) := by decide +kernel
theorem dX9_withdraw_14 : decode cX9_withdraw 14 = .ok (.ifCond .eq 7, 3) := by decide +kernel
theorem dX9_withdraw_17 : decode cX9_withdraw 17 = .ok (.iconst 0, 1) := by decide +kernel
theorem dX9_withdraw_18 : decode cX9_withdraw 18 = .ok (.goto 4, 3) := by decide +kernel
theorem dX9_withdraw_21 : decode cX9_withdraw 21 = .ok (.iconst 1, 1) := by decide +kernel
theorem dX9_withdraw_22 : decode cX9_withdraw 22 = .ok (.putfield 93, 3) := by decide +kernel
theorem dX9_withdraw_25 : decode cX9_withdraw 25 = .ok (.aload_n 0, 1) := by decide +kernel
theorem dX9_withdraw_26 : decode cX9_withdraw 26 = .ok (.getfield 93, 3) := by decide +kernel
theorem dX9_withdraw_29 : decode cX9_withdraw 29 = .ok (.ifCond .le 7, 3) := by decide +kernel
theorem dX9_withdraw_32 : decode cX9_withdraw 32 = .ok (.iconst 0, 1) := by decide +kernel
theorem dX9_withdraw_33 : decode cX9_withdraw 33 = .ok (.goto 13, 3) := by decide +kernel
theorem dX9_withdraw_36 : decode cX9_withdraw 36 = .ok (.bipush 8, 2) := by decide +kernel
theorem dX9_withdraw_38 : decode cX9_withdraw 38 = .ok (.iconst 3, 1) := by decide +kernel
theorem dX9_withdraw_39 : decode cX9_withdraw 39 = .ok (.iload_n 2, 1) := by decide +kernel
theorem dX9_withdraw_40 : decode cX9_withdraw 40 = .ok (.imul, 1) := by decide +kernel
theorem dX9_withdraw_41 : decode cX9_withdraw 41 = .ok (.iload_n 3, 1) := by decide +kernel
theorem dX9_withdraw_42 : decode cX9_withdraw 42 = .ok (.iadd, 1) := by decide +kernel
theorem dX9_withdraw_43 : decode cX9_withdraw 43 = .ok (.imul, 1) := by decide +kernel
theorem dX9_withdraw_44 : decode cX9_withdraw 44 = .ok (.iload_n 1, 1) := by decide +kernel
theorem dX9_withdraw_45 : decode cX9_withdraw 45 = .ok (.iadd, 1) := by decide +kernel
theorem dX9_withdraw_46 : decode cX9_withdraw 46 = .ok (.istore 4, 2) := by decide +kernel
theorem dX9_withdraw_48 : decode cX9_withdraw 48 = .ok (.aload_n 0, 1) := by decide +kernel
theorem dX9_withdraw_49 : decode cX9_withdraw 49 = .ok (.getfield 93, 3) := by decide +kernel
theorem dX9_withdraw_52 : decode cX9_withdraw 52 = .ok (.ifCond .ne 30, 3) := by decide +kernel
theorem dX9_withdraw_55 : decode cX9_withdraw 55 = .ok (.aload_n 0, 1) := by decide +kernel
theorem dX9_withdraw_56 : decode cX9_withdraw 56 = .ok (.aload_n 0, 1) := by decide +kernel
theorem dX9_withdraw_57 : decode cX9_withdraw 57 = .ok (.iload_n 2, 1) := by decide +kernel
theorem dX9_withdraw_58 : decode cX9_withdraw 58 = .ok (.invokevirtual 111, 3) := by decide +kernel
theorem dX9_withdraw_61 : decode cX9_withdraw 61 = .ok (.ifCond .ne 13, 3) := by decide +kernel
theorem dX9_withdraw_64 : decode cX9_withdraw 64 = .ok (.aload_n 0, 1) := by decide +kernel
theorem dX9_withdraw_65 : decode cX9_withdraw 65 = .ok (.getfield 31, 3) := by decide +kernel
theorem dX9_withdraw_68 : decode cX9_withdraw 68 = .ok (.iload 4, 2) := by decide +kernel
theorem dX9_withdraw_70 : decode cX9_withdraw 70 = .ok (.iaload, 1) := by decide +kernel
theorem dX9_withdraw_71 : decode cX9_withdraw 71 = .ok (.ifCond .ne 7, 3) := by decide +kernel
theorem dX9_withdraw_74 : decode cX9_withdraw 74 = .ok (.iconst 2, 1) := by decide +kernel
theorem dX9_withdraw_75 : decode cX9_withdraw 75 = .ok (.goto 4, 3) := by decide +kernel
theorem dX9_withdraw_78 : decode cX9_withdraw 78 = .ok (.iconst 0, 1) := by decide +kernel
theorem dX9_withdraw_79 : decode cX9_withdraw 79 = .ok (.putfield 93, 3) := by decide +kernel
theorem dX9_withdraw_82 : decode cX9_withdraw 82 = .ok (.aload_n 0, 1) := by decide +kernel
theorem dX9_withdraw_83 : decode cX9_withdraw 83 = .ok (.getfield 93, 3) := by decide +kernel
theorem dX9_withdraw_86 : decode cX9_withdraw 86 = .ok (.ifCond .le 5, 3) := by decide +kernel
theorem dX9_withdraw_89 : decode cX9_withdraw 89 = .ok (.iconst 0, 1) := by decide +kernel
theorem dX9_withdraw_90 : decode cX9_withdraw 90 = .ok (.ireturn, 1) := by decide +kernel
theorem dX9_withdraw_91 : decode cX9_withdraw 91 = .ok (.aload_n 0, 1) := by decide +kernel
theorem dX9_withdraw_92 : decode cX9_withdraw 92 = .ok (.getfield 31, 3) := by decide +kernel
theorem dX9_withdraw_95 : decode cX9_withdraw 95 = .ok (.iload 4, 2) := by decide +kernel
theorem dX9_withdraw_97 : decode cX9_withdraw 97 = .ok (.iaload, 1) := by decide +kernel
theorem dX9_withdraw_98 : decode cX9_withdraw 98 = .ok (.istore 5, 2) := by decide +kernel
theorem dX9_withdraw_100 : decode cX9_withdraw 100 = .ok (.aload_n 0, 1) := by decide +kernel
theorem dX9_withdraw_101 : decode cX9_withdraw 101 = .ok (.getfield 31, 3) := by decide +kernel
theorem dX9_withdraw_104 : decode cX9_withdraw 104 = .ok (.iload 4, 2) := by decide +kernel
theorem dX9_withdraw_106 : decode cX9_withdraw 106 = .ok (.iconst 0, 1) := by decide +kernel
theorem dX9_withdraw_107 : decode cX9_withdraw 107 = .ok (.iastore, 1) := by decide +kernel
theorem dX9_withdraw_108 : decode cX9_withdraw 108 = .ok (.iload 5, 2) := by decide +kernel
theorem dX9_withdraw_110 : decode cX9_withdraw 110 = .ok (.ireturn, 1) := by decide +kernel
theorem dX9_hasPapers_0 : decode cX9_hasPapers 0 = .ok (.iconst 1, 1) := by decide +kernel
theorem dX9_hasPapers_1 : decode cX9_hasPapers 1 = .ok (.istore_n 3, 1) := by decide +kernel
theorem dX9_hasPapers_2 : decode cX9_hasPapers 2 = .ok (.iconst 0, 1) := by decide +kernel
theorem dX9_hasPapers_3 : decode cX9_hasPapers 3 = .ok (.istore 4, 2) := by decide +kernel
theorem dX9_hasPapers_5 : decode cX9_hasPapers 5 = .ok (.iload 4, 2) := by decide +kernel
theorem dX9_hasPapers_7 : decode cX9_hasPapers 7 = .ok (.bipush 6, 2) := by decide +kernel
theorem dX9_hasPapers_9 : decode cX9_hasPapers 9 = .ok (.if_icmp .ge 56, 3) := by decide +kernel
theorem dX9_hasPapers_12 : decode cX9_hasPapers 12 = .ok (.iload_n 3, 1) := by decide +kernel
theorem dX9_hasPapers_13 : decode cX9_hasPapers 13 = .ok (.ifCond .eq 44, 3) := by decide +kernel
theorem dX9_hasPapers_16 : decode cX9_hasPapers 16 = .ok (.aload_n 0, 1) := by decide +kernel
theorem dX9_hasPapers_17 : decode cX9_hasPapers 17 = .ok (.getfield 16, 3) := by decide +kernel
theorem dX9_hasPapers_20 : decode cX9_hasPapers 20 = .ok (.iload_n 2, 1) := by decide +kernel
theorem dX9_hasPapers_21 : decode cX9_hasPapers 21 = .ok (.iaload, 1) := by decide +kernel
theorem dX9_hasPapers_22 : decode cX9_hasPapers 22 = .ok (.iload 4, 2) := by decide +kernel
theorem dX9_hasPapers_24 : decode cX9_hasPapers 24 = .ok (.ishr, 1) := by decide +kernel
theorem dX9_hasPapers_25 : decode cX9_hasPapers 25 = .ok (.iconst 1, 1) := by decide +kernel
theorem dX9_hasPapers_26 : decode cX9_hasPapers 26 = .ok (.iand, 1) := by decide +kernel
theorem dX9_hasPapers_27 : decode cX9_hasPapers 27 = .ok (.ifCond .eq 26, 3) := by decide +kernel
theorem dX9_hasPapers_30 : decode cX9_hasPapers 30 = .ok (.aload_n 0, 1) := by decide +kernel
theorem dX9_hasPapers_31 : decode cX9_hasPapers 31 = .ok (.getfield 7, 3) := by decide +kernel
theorem dX9_hasPapers_34 : decode cX9_hasPapers 34 = .ok (.bipush 6, 2) := by decide +kernel
theorem dX9_hasPapers_36 : decode cX9_hasPapers 36 = .ok (.iload_n 1, 1) := by decide +kernel
theorem dX9_hasPapers_37 : decode cX9_hasPapers 37 = .ok (.imul, 1) := by decide +kernel
theorem dX9_hasPapers_38 : decode cX9_hasPapers 38 = .ok (.iload 4, 2) := by decide +kernel
theorem dX9_hasPapers_40 : decode cX9_hasPapers 40 = .ok (.iadd, 1) := by decide +kernel
theorem dX9_hasPapers_41 : decode cX9_hasPapers 41 = .ok (.iaload, 1) := by decide +kernel
theorem dX9_hasPapers_42 : decode cX9_hasPapers 42 = .ok (.iconst 1, 1) := by decide +kernel
theorem dX9_hasPapers_43 : decode cX9_hasPapers 43 = .ok (.isub, 1) := by decide +kernel
theorem dX9_hasPapers_44 : decode cX9_hasPapers 44 = .ok (.aload_n 0, 1) := by decide +kernel
theorem dX9_hasPapers_45 : decode cX9_hasPapers 45 = .ok (.getfield 13, 3) := by decide +kernel
theorem dX9_hasPapers_48 : decode cX9_hasPapers 48 = .ok (.iload_n 2, 1) := by decide +kernel
theorem dX9_hasPapers_49 : decode cX9_hasPapers 49 = .ok (.iaload, 1) := by decide +kernel
theorem dX9_hasPapers_50 : decode cX9_hasPapers 50 = .ok (.if_icmp .lt 7, 3) := by decide +kernel
theorem dX9_hasPapers_53 : decode cX9_hasPapers 53 = .ok (.iconst 1, 1) := by decide +kernel
theorem dX9_hasPapers_54 : decode cX9_hasPapers 54 = .ok (.goto 4, 3) := by decide +kernel
theorem dX9_hasPapers_57 : decode cX9_hasPapers 57 = .ok (.iconst 0, 1) := by decide +kernel
theorem dX9_hasPapers_58 : decode cX9_hasPapers 58 = .ok (.istore_n 3, 1) := by decide +kernel
theorem dX9_hasPapers_59 : decode cX9_hasPapers 59 = .ok (.iinc 4 1, 3) := by decide +kernel
theorem dX9_hasPapers_62 : decode cX9_hasPapers 62 = .ok (.goto (-57), 3) := by decide +kernel
theorem dX9_hasPapers_65 : decode cX9_hasPapers 65 = .ok (.iload_n 3, 1) := by decide +kernel
theorem dX9_hasPapers_66 : decode cX9_hasPapers 66 = .ok (.ireturn, 1) := by decide +kernel
set_option maxRecDepth 20000 in
theorem ggX9_opens_X9_hasPapers : GoodIn wsX9_opens wsX9_hasPapers := goodIn_r _ [7, 8, 9, 10, 11, 12, 13, 14, 15, 16, 17, 18, 19, 20, 21, 22, 23, 24, 25, 26, 27, 28, 29, 30, 31, 32, 33, 34, 35, 36, 37, 38, 39, 40, 41, 42, 43, 44, 45] (by decide +kernel) (by decide +kernel)
set_option maxRecDepth 20000 in
theorem gX9_opens_X9_hasPapers : GoodIn wsX9_opens (wsV RX9 129 RX9 yX9_hasPapers wsX9_hasPapers) := goodIn_app (goodIn_of _ (by decide +kernel)) ggX9_opens_X9_hasPapers
theorem dX9_opens_0 : decode cX9_opens 0 = .ok (.iconst 0, 1) := by decide +kernel
theorem dX9_opens_1 : decode cX9_opens 1 = .ok (.istore_n 2, 1) := by decide +kernel
theorem dX9_opens_2 : decode cX9_opens 2 = .ok (.iload_n 2, 1) := by decide +kernel
theorem dX9_opens_3 : decode cX9_opens 3 = .ok (.aload_n 0, 1) := by decide +kernel
theorem dX9_opens_4 : decode cX9_opens 4 = .ok (.getfield 25, 3) := by decide +kernel
theorem dX9_opens_7 : decode cX9_opens 7 = .ok (.iload_n 1, 1) := by decide +kernel
theorem dX9_opens_8 : decode cX9_opens 8 = .ok (.iaload, 1) := by decide +kernel
theorem dX9_opens_9 : decode cX9_opens 9 = .ok (.if_icmp .ge 52, 3) := by decide +kernel
theorem dX9_opens_12 : decode cX9_opens 12 = .ok (.iconst 0, 1) := by decide +kernel
theorem dX9_opens_13 : decode cX9_opens 13 = .ok (.istore_n 3, 1) := by decide +kernel
theorem dX9_opens_14 : decode cX9_opens 14 = .ok (.iload_n 3, 1) := by decide +kernel
theorem dX9_opens_15 : decode cX9_opens 15 = .ok (.bipush 8, 2) := by decide +kernel
theorem dX9_opens_17 : decode cX9_opens 17 = .ok (.if_icmp .ge 38, 3) := by decide +kernel
theorem dX9_opens_20 : decode cX9_opens 20 = .ok (.aload_n 0, 1) := by decide +kernel
theorem dX9_opens_21 : decode cX9_opens 21 = .ok (.getfield 40, 3) := by decide +kernel
theorem dX9_opens_24 : decode cX9_opens 24 = .ok (.bipush 8, 2) := by decide +kernel
theorem dX9_opens_26 : decode cX9_opens 26 = .ok (.iconst 3, 1) := by decide +kernel
theorem dX9_opens_27 : decode cX9_opens 27 = .ok (.iload_n 1, 1) := by decide +kernel
theorem dX9_opens_28 : decode cX9_opens 28 = .ok (.imul, 1) := by decide +kernel
theorem dX9_opens_29 : decode cX9_opens 29 = .ok (.iload_n 2, 1) := by decide +kernel
theorem dX9_opens_30 : decode cX9_opens 30 = .ok (.iadd, 1) := by decide +kernel
theorem dX9_opens_31 : decode cX9_opens 31 = .ok (.imul, 1) := by decide +kernel
theorem dX9_opens_32 : decode cX9_opens 32 = .ok (.iload_n 3, 1) := by decide +kernel
theorem dX9_opens_33 : decode cX9_opens 33 = .ok (.iadd, 1) := by decide +kernel
theorem dX9_opens_34 : decode cX9_opens 34 = .ok (.aload_n 0, 1) := by decide +kernel
theorem dX9_opens_35 : decode cX9_opens 35 = .ok (.iload_n 3, 1) := by decide +kernel
theorem dX9_opens_36 : decode cX9_opens 36 = .ok (.iload_n 1, 1) := by decide +kernel
theorem dX9_opens_37 : decode cX9_opens 37 = .ok (.invokevirtual 129, 3) := by decide +kernel
theorem dX9_opens_40 : decode cX9_opens 40 = .ok (.ifCond .ne 7, 3) := by decide +kernel
theorem dX9_opens_43 : decode cX9_opens 43 = .ok (.iconst 1, 1) := by decide +kernel
theorem dX9_opens_44 : decode cX9_opens 44 = .ok (.goto 4, 3) := by decide +kernel
theorem dX9_opens_47 : decode cX9_opens 47 = .ok (.iconst 0, 1) := by decide +kernel
theorem dX9_opens_48 : decode cX9_opens 48 = .ok (.bastore, 1) := by decide +kernel
theorem dX9_opens_49 : decode cX9_opens 49 = .ok (.iinc 3 1, 3) := by decide +kernel
theorem dX9_opens_52 : decode cX9_opens 52 = .ok (.goto (-38), 3) := by decide +kernel
theorem dX9_opens_55 : decode cX9_opens 55 = .ok (.iinc 2 1, 3) := by decide +kernel
theorem dX9_opens_58 : decode cX9_opens 58 = .ok (.goto (-56), 3) := by decide +kernel
theorem dX9_opens_61 : decode cX9_opens 61 = .ok (.return_, 1) := by decide +kernel
set_option maxRecDepth 20000 in
theorem ggX9_takesPart_X9_isOpened : GoodIn wsX9_takesPart wsX9_isOpened := goodIn_r _ [8, 9, 10, 11, 12, 13, 14, 15, 16, 17, 18, 19, 20, 21, 22, 23, 24, 25, 26, 27, 28, 29, 30, 31, 32, 33, 34, 35, 36, 37, 38, 39, 40, 41, 42, 43, 44, 45] (by decide +kernel) (by decide +kernel)
set_option maxRecDepth 20000 in
theorem gX9_takesPart_X9_isOpened : GoodIn wsX9_takesPart (wsV RX9 111 RX9 yX9_isOpened wsX9_isOpened) := goodIn_app (goodIn_of _ (by decide +kernel)) ggX9_takesPart_X9_isOpened
theorem dX9_takesPart_0 : decode cX9_takesPart 0 = .ok (.aload_n 0, 1) := by decide +kernel
theorem dX9_takesPart_1 : decode cX9_takesPart 1 = .ok (.iload_n 1, 1) := by decide +kernel
theorem dX9_takesPart_2 : decode cX9_takesPart 2 = .ok (.bipush 8, 2) := by decide +kernel
theorem dX9_takesPart_4 : decode cX9_takesPart 4 = .ok (.idiv, 1) := by decide +kernel
theorem dX9_takesPart_5 : decode cX9_takesPart 5 = .ok (.iconst 3, 1) := by decide +kernel
theorem dX9_takesPart_6 : decode cX9_takesPart 6 = .ok (.idiv, 1) := by decide +kernel
theorem dX9_takesPart_7 : decode cX9_takesPart 7 = .ok (.invokevirtual 111, 3) := by decide +kernel
theorem dX9_takesPart_10 : decode cX9_takesPart 10 = .ok (.ifCond .eq 34, 3) := by decide +kernel
theorem dX9_takesPart_13 : decode cX9_takesPart 13 = .ok (.aload_n 0, 1) := by decide +kernel
theorem dX9_takesPart_14 : decode cX9_takesPart 14 = .ok (.getfield 31, 3) := by decide +kernel
theorem dX9_takesPart_17 : decode cX9_takesPart 17 = .ok (.iload_n 1, 1) := by decide +kernel
theorem dX9_takesPart_18 : decode cX9_takesPart 18 = .ok (.iaload, 1) := by decide +kernel
theorem dX9_takesPart_19 : decode cX9_takesPart 19 = .ok (.ifCond .le 25, 3) := by decide +kernel
theorem dX9_takesPart_22 : decode cX9_takesPart 22 = .ok (.aload_n 0, 1) := by decide +kernel
theorem dX9_takesPart_23 : decode cX9_takesPart 23 = .ok (.getfield 40, 3) := by decide +kernel
theorem dX9_takesPart_26 : decode cX9_takesPart 26 = .ok (.iload_n 1, 1) := by decide +kernel
theorem dX9_takesPart_27 : decode cX9_takesPart 27 = .ok (.baload, 1) := by decide +kernel
theorem dX9_takesPart_28 : decode cX9_takesPart 28 = .ok (.ifCond .ne 16, 3) := by decide +kernel
theorem dX9_takesPart_31 : decode cX9_takesPart 31 = .ok (.aload_n 0, 1) := by decide +kernel
theorem dX9_takesPart_32 : decode cX9_takesPart 32 = .ok (.getfield 44, 3) := by decide +kernel
theorem dX9_takesPart_35 : decode cX9_takesPart 35 = .ok (.iload_n 1, 1) := by decide +kernel
theorem dX9_takesPart_36 : decode cX9_takesPart 36 = .ok (.baload, 1) := by decide +kernel
theorem dX9_takesPart_37 : decode cX9_takesPart 37 = .ok (.ifCond .ne 7, 3) := by decide +kernel
theorem dX9_takesPart_40 : decode cX9_takesPart 40 = .ok (.iconst 1, 1) := by decide +kernel
theorem dX9_takesPart_41 : decode cX9_takesPart 41 = .ok (.goto 4, 3) := by decide +kernel
theorem dX9_takesPart_44 : decode cX9_takesPart 44 = .ok (.iconst 0, 1) := by decide +kernel
theorem dX9_takesPart_45 : decode cX9_takesPart 45 = .ok (.ireturn, 1) := by decide +kernel
set_option maxRecDepth 20000 in
theorem ggX9_scoreOf_X9_takesPart : GoodIn wsX9_scoreOf wsX9_takesPart := goodIn_r _ [8, 1, 9, 10, 11, 12, 13, 7, 14, 15, 16, 17, 18, 19, 20, 21, 22, 23, 24, 25, 26, 27, 28, 29, 30, 31, 32, 33, 34, 35, 36, 37, 38, 39, 40, 41, 42, 43, 44, 45, 46, 47, 48, 49, 50, 51] (by decide +kernel) (by decide +kernel)
set_option maxRecDepth 20000 in
theorem gX9_scoreOf_X9_takesPart : GoodIn wsX9_scoreOf (wsV RX9 132 RX9 yX9_takesPart wsX9_takesPart) := goodIn_app (goodIn_of _ (by decide +kernel)) ggX9_scoreOf_X9_takesPart
theorem dX9_scoreOf_0 : decode cX9_scoreOf 0 = .ok (.iload_n 1, 1) := by decide +kernel
theorem dX9_scoreOf_1 : decode cX9_scoreOf 1 = .ok (.bipush 8, 2) := by decide +kernel
theorem dX9_scoreOf_3 : decode cX9_scoreOf 3 = .ok (.idiv, 1) := by decide +kernel
theorem dX9_scoreOf_4 : decode cX9_scoreOf 4 = .ok (.istore_n 2, 1) := by decide +kernel
theorem dX9_scoreOf_5 : decode cX9_scoreOf 5 = .ok (.aload_n 0, 1) := by decide +kernel
theorem dX9_scoreOf_6 : decode cX9_scoreOf 6 = .ok (.getfield 31, 3) := by decide +kernel
theorem dX9_scoreOf_9 : decode cX9_scoreOf 9 = .ok (.iload_n 1, 1) := by decide +kernel
theorem dX9_scoreOf_10 : decode cX9_scoreOf 10 = .ok (.iaload, 1) := by decide +kernel
theorem dX9_scoreOf_11 : decode cX9_scoreOf 11 = .ok (.istore_n 3, 1) := by decide +kernel
theorem dX9_scoreOf_12 : decode cX9_scoreOf 12 = .ok (.iconst 0, 1) := by decide +kernel
theorem dX9_scoreOf_13 : decode cX9_scoreOf 13 = .ok (.istore 4, 2) := by decide +kernel
theorem dX9_scoreOf_15 : decode cX9_scoreOf 15 = .ok (.iload 4, 2) := by decide +kernel
theorem dX9_scoreOf_17 : decode cX9_scoreOf 17 = .ok (.bipush 8, 2) := by decide +kernel
theorem dX9_scoreOf_19 : decode cX9_scoreOf 19 = .ok (.if_icmp .ge 50, 3) := by decide +kernel
theorem dX9_scoreOf_22 : decode cX9_scoreOf 22 = .ok (.bipush 8, 2) := by decide +kernel
theorem dX9_scoreOf_24 : decode cX9_scoreOf 24 = .ok (.iload_n 2, 1) := by decide +kernel
theorem dX9_scoreOf_25 : decode cX9_scoreOf 25 = .ok (.imul, 1) := by decide +kernel
theorem dX9_scoreOf_26 : decode cX9_scoreOf 26 = .ok (.iload 4, 2) := by decide +kernel
theorem dX9_scoreOf_28 : decode cX9_scoreOf 28 = .ok (.iadd, 1) := by decide +kernel
theorem dX9_scoreOf_29 : decode cX9_scoreOf 29 = .ok (.istore 5, 2) := by decide +kernel
theorem dX9_scoreOf_31 : decode cX9_scoreOf 31 = .ok (.aload_n 0, 1) := by decide +kernel
theorem dX9_scoreOf_32 : decode cX9_scoreOf 32 = .ok (.iload 5, 2) := by decide +kernel
theorem dX9_scoreOf_34 : decode cX9_scoreOf 34 = .ok (.invokevirtual 132, 3) := by decide +kernel
theorem dX9_scoreOf_37 : decode cX9_scoreOf 37 = .ok (.ifCond .eq 24, 3) := by decide +kernel
theorem dX9_scoreOf_40 : decode cX9_scoreOf 40 = .ok (.aload_n 0, 1) := by decide +kernel
theorem dX9_scoreOf_41 : decode cX9_scoreOf 41 = .ok (.getfield 31, 3) := by decide +kernel
theorem dX9_scoreOf_44 : decode cX9_scoreOf 44 = .ok (.iload 5, 2) := by decide +kernel
theorem dX9_scoreOf_46 : decode cX9_scoreOf 46 = .ok (.iaload, 1) := by decide +kernel
theorem dX9_scoreOf_47 : decode cX9_scoreOf 47 = .ok (.iload_n 3, 1) := by decide +kernel
theorem dX9_scoreOf_48 : decode cX9_scoreOf 48 = .ok (.if_icmp .ge 13, 3) := by decide +kernel
theorem dX9_scoreOf_51 : decode cX9_scoreOf 51 = .ok (.aload_n 0, 1) := by decide +kernel
theorem dX9_scoreOf_52 : decode cX9_scoreOf 52 = .ok (.getfield 31, 3) := by decide +kernel
theorem dX9_scoreOf_55 : decode cX9_scoreOf 55 = .ok (.iload 5, 2) := by decide +kernel
theorem dX9_scoreOf_57 : decode cX9_scoreOf 57 = .ok (.iaload, 1) := by decide +kernel
theorem dX9_scoreOf_58 : decode cX9_scoreOf 58 = .ok (.goto 4, 3) := by decide +kernel
theorem dX9_scoreOf_61 : decode cX9_scoreOf 61 = .ok (.iload_n 3, 1) := by decide +kernel
theorem dX9_scoreOf_62 : decode cX9_scoreOf 62 = .ok (.istore_n 3, 1) := by decide +kernel
theorem dX9_scoreOf_63 : decode cX9_scoreOf 63 = .ok (.iinc 4 1, 3) := by decide +kernel
theorem dX9_scoreOf_66 : decode cX9_scoreOf 66 = .ok (.goto (-51), 3) := by decide +kernel
theorem dX9_scoreOf_69 : decode cX9_scoreOf 69 = .ok (.aload_n 0, 1) := by decide +kernel
theorem dX9_scoreOf_70 : decode cX9_scoreOf 70 = .ok (.getfield 19, 3) := by decide +kernel
theorem dX9_scoreOf_73 : decode cX9_scoreOf 73 = .ok (.iload_n 2, 1) := by decide +kernel
theorem dX9_scoreOf_74 : decode cX9_scoreOf 74 = .ok (.iconst 3, 1) := by decide +kernel
theorem dX9_scoreOf_75 : decode cX9_scoreOf 75 = .ok (.idiv, 1) := by decide +kernel
theorem dX9_scoreOf_76 : decode cX9_scoreOf 76 = .ok (.iaload, 1) := by decide +kernel
theorem dX9_scoreOf_77 : decode cX9_scoreOf 77 = .ok (.istore 4, 2) := by decide +kernel
theorem dX9_scoreOf_79 : decode cX9_scoreOf 79 = .ok (.iload_n 3, 1) := by decide +kernel
theorem dX9_scoreOf_80 : decode cX9_scoreOf 80 = .ok (.sipush 1000, 3) := by decide +kernel
theorem dX9_scoreOf_83 : decode cX9_scoreOf 83 = .ok (.imul, 1) := by decide +kernel
theorem dX9_scoreOf_84 : decode cX9_scoreOf 84 = .ok (.aload_n 0, 1) := by decide +kernel
theorem dX9_scoreOf_85 : decode cX9_scoreOf 85 = .ok (.getfield 31, 3) := by decide +kernel
theorem dX9_scoreOf_88 : decode cX9_scoreOf 88 = .ok (.iload_n 1, 1) := by decide +kernel
theorem dX9_scoreOf_89 : decode cX9_scoreOf 89 = .ok (.iaload, 1) := by decide +kernel
theorem dX9_scoreOf_90 : decode cX9_scoreOf 90 = .ok (.idiv, 1) := by decide +kernel
theorem dX9_scoreOf_91 : decode cX9_scoreOf 91 = .ok (.iload 4, 2) := by decide +kernel
theorem dX9_scoreOf_93 : decode cX9_scoreOf 93 = .ok (.imul, 1) := by decide +kernel
theorem dX9_scoreOf_94 : decode cX9_scoreOf 94 = .ok (.bipush 10, 2) := by decide +kernel
theorem dX9_scoreOf_96 : decode cX9_scoreOf 96 = .ok (.aload_n 0, 1) := by decide +kernel
theorem dX9_scoreOf_97 : decode cX9_scoreOf 97 = .ok (.getfield 34, 3) := by decide +kernel
theorem dX9_scoreOf_100 : decode cX9_scoreOf 100 = .ok (.iload_n 1, 1) := by decide +kernel
theorem dX9_scoreOf_101 : decode cX9_scoreOf 101 = .ok (.iaload, 1) := by decide +kernel
theorem dX9_scoreOf_102 : decode cX9_scoreOf 102 = .ok (.imul, 1) := by decide +kernel
theorem dX9_scoreOf_103 : decode cX9_scoreOf 103 = .ok (.bipush 100, 2) := by decide +kernel
theorem dX9_scoreOf_105 : decode cX9_scoreOf 105 = .ok (.iload 4, 2) := by decide +kernel
theorem dX9_scoreOf_107 : decode cX9_scoreOf 107 = .ok (.isub, 1) := by decide +kernel
theorem dX9_scoreOf_108 : decode cX9_scoreOf 108 = .ok (.imul, 1) := by decide +kernel
theorem dX9_scoreOf_109 : decode cX9_scoreOf 109 = .ok (.iadd, 1) := by decide +kernel
theorem dX9_scoreOf_110 : decode cX9_scoreOf 110 = .ok (.ireturn, 1) := by decide +kernel
set_option maxRecDepth 20000 in
theorem ggX9_isBetter_X9_scoreOf : GoodIn wsX9_isBetter wsX9_scoreOf := goodIn_r _ [7, 1, 8, 9, 10, 11, 12, 6, 13, 14, 15, 16, 17, 18, 19, 20, 21, 22, 23, 24, 25, 26, 27, 28, 29, 30, 31, 32, 33, 34, 35, 36, 37, 38, 39, 40, 41, 42, 43, 44, 45, 46, 47, 48, 49, 50, 51, 52, 53, 54, 55, 56] (by decide +kernel) (by decide +kernel)
set_option maxRecDepth 20000 in
theorem gX9_isBetter_X9_scoreOf : GoodIn wsX9_isBetter (wsV RX9 135 RX9 yX9_scoreOf wsX9_scoreOf) := goodIn_app (goodIn_of _ (by decide +kernel)) ggX9_isBetter_X9_scoreOf
theorem dX9_isBetter_0 : decode cX9_isBetter 0 = .ok (.aload_n 0, 1) := by decide +kernel
theorem dX9_isBetter_1 : decode cX9_isBetter 1 = .ok (.iload_n 1, 1) := by decide +kernel
theorem dX9_isBetter_2 : decode cX9_isBetter 2 = .ok (.invokevirtual 135, 3) := by decide +kernel
theorem dX9_isBetter_5 : decode cX9_isBetter 5 = .ok (.istore_n 3, 1) := by decide +kernel
theorem dX9_isBetter_6 : decode cX9_isBetter 6 = .ok (.aload_n 0, 1) := by decide +kernel
theorem dX9_isBetter_7 : decode cX9_isBetter 7 = .ok (.iload_n 2, 1) := by decide +kernel
theorem dX9_isBetter_8 : decode cX9_isBetter 8 = .ok (.invokevirtual 135, 3) := by decide +kernel
theorem dX9_isBetter_11 : decode cX9_isBetter 11 = .ok (.istore 4, 2) := by decide +kernel
theorem dX9_isBetter_13 : decode cX9_isBetter 13 = .ok (.iload_n 3, 1) := by decide +kernel
theorem dX9_isBetter_14 : decode cX9_isBetter 14 = .ok (.iload 4, 2) := by decide +kernel
theorem dX9_isBetter_16 : decode cX9_isBetter 16 = .ok (.if_icmp .ne 18, 3) := by decide +kernel
theorem dX9_isBetter_19 : decode cX9_isBetter 19 = .ok (.aload_n 0, 1) := by decide +kernel
theorem dX9_isBetter_20 : decode cX9_isBetter 20 = .ok (.getfield 31, 3) := by decide +kernel
theorem dX9_isBetter_23 : decode cX9_isBetter 23 = .ok (.iload_n 1, 1) := by decide +kernel
theorem dX9_isBetter_24 : decode cX9_isBetter 24 = .ok (.iaload, 1) := by decide +kernel
theorem dX9_isBetter_25 : decode cX9_isBetter 25 = .ok (.aload_n 0, 1) := by decide +kernel
theorem dX9_isBetter_26 : decode cX9_isBetter 26 = .ok (.getfield 31, 3) := by decide +kernel
theorem dX9_isBetter_29 : decode cX9_isBetter 29 = .ok (.iload_n 2, 1) := by decide +kernel
theorem dX9_isBetter_30 : decode cX9_isBetter 30 = .ok (.iaload, 1) := by decide +kernel
theorem dX9_isBetter_31 : decode cX9_isBetter 31 = .ok (.if_icmp .eq 44, 3) := by decide +kernel
theorem dX9_isBetter_34 : decode cX9_isBetter 34 = .ok (.iload_n 3, 1) := by decide +kernel
theorem dX9_isBetter_35 : decode cX9_isBetter 35 = .ok (.iload 4, 2) := by decide +kernel
theorem dX9_isBetter_37 : decode cX9_isBetter 37 = .ok (.if_icmp .eq 17, 3) := by decide +kernel
theorem dX9_isBetter_40 : decode cX9_isBetter 40 = .ok (.iload_n 3, 1) := by decide +kernel
theorem dX9_isBetter_41 : decode cX9_isBetter 41 = .ok (.iload 4, 2) := by decide +kernel
theorem dX9_isBetter_43 : decode cX9_isBetter 43 = .ok (.if_icmp .le 7, 3) := by decide +kernel
theorem dX9_isBetter_46 : decode cX9_isBetter 46 = .ok (.iconst 1, 1) := by decide +kernel
theorem dX9_isBetter_47 : decode cX9_isBetter 47 = .ok (.goto 27, 3) := by decide +kernel
theorem dX9_isBetter_50 : decode cX9_isBetter 50 = .ok (.iconst 0, 1) := by decide +kernel
theorem dX9_isBetter_51 : decode cX9_isBetter 51 = .ok (.goto 23, 3) := by decide +kernel
theorem dX9_isBetter_54 : decode cX9_isBetter 54 = .ok (.aload_n 0, 1) := by decide +kernel
theorem dX9_isBetter_55 : decode cX9_isBetter 55 = .ok (.getfield 31, 3) := by decide +kernel
theorem dX9_isBetter_58 : decode cX9_isBetter 58 = .ok (.iload_n 1, 1) := by decide +kernel
theorem dX9_isBetter_59 : decode cX9_isBetter 59 = .ok (.iaload, 1) := by decide +kernel
theorem dX9_isBetter_60 : decode cX9_isBetter 60 = .ok (.aload_n 0, 1) := by decide +kernel
theorem dX9_isBetter_61 : decode cX9_isBetter 61 = .ok (.getfield 31, 3) := by decide +kernel
theorem dX9_isBetter_64 : decode cX9_isBetter 64 = .ok (.iload_n 2, 1) := by decide +kernel
theorem dX9_isBetter_65 : decode cX9_isBetter 65 = .ok (.iaload, 1) := by decide +kernel
theorem dX9_isBetter_66 : decode cX9_isBetter 66 = .ok (.if_icmp .ge 7, 3) := by decide +kernel
theorem dX9_isBetter_69 : decode cX9_isBetter 69 = .ok (.iconst 1, 1) := by decide +kernel
theorem dX9_isBetter_70 : decode cX9_isBetter 70 = .ok (.goto 4, 3) := by decide +kernel
theorem dX9_isBetter_73 : decode cX9_isBetter 73 = .ok (.iconst 0, 1) := by decide +kernel
theorem dX9_isBetter_74 : decode cX9_isBetter 74 = .ok (.ireturn, 1) := by decide +kernel
theorem dX9_isBetter_75 : decode cX9_isBetter 75 = .ok (.aload_n 0, 1) := by decide +kernel
theorem dX9_isBetter_76 : decode cX9_isBetter 76 = .ok (.getfield 37, 3) := by decide +kernel
theorem dX9_isBetter_79 : decode cX9_isBetter 79 = .ok (.iload_n 1, 1) := by decide +kernel
theorem dX9_isBetter_80 : decode cX9_isBetter 80 = .ok (.iaload, 1) := by decide +kernel
theorem dX9_isBetter_81 : decode cX9_isBetter 81 = .ok (.aload_n 0, 1) := by decide +kernel
theorem dX9_isBetter_82 : decode cX9_isBetter 82 = .ok (.getfield 37, 3) := by decide +kernel
theorem dX9_isBetter_85 : decode cX9_isBetter 85 = .ok (.iload_n 2, 1) := by decide +kernel
theorem dX9_isBetter_86 : decode cX9_isBetter 86 = .ok (.iaload, 1) := by decide +kernel
theorem dX9_isBetter_87 : decode cX9_isBetter 87 = .ok (.if_icmp .ge 7, 3) := by decide +kernel
theorem dX9_isBetter_90 : decode cX9_isBetter 90 = .ok (.iconst 1, 1) := by decide +kernel
theorem dX9_isBetter_91 : decode cX9_isBetter 91 = .ok (.goto 4, 3) := by decide +kernel
theorem dX9_isBetter_94 : decode cX9_isBetter 94 = .ok (.iconst 0, 1) := by decide +kernel
theorem dX9_isBetter_95 : decode cX9_isBetter 95 = .ok (.ireturn, 1) := by decide +kernel
set_option maxRecDepth 20000 in
theorem ggX9_rankedAt_X9_takesPart : GoodIn wsX9_rankedAt wsX9_takesPart := goodIn_r _ [5, 6, 7, 8, 9, 10, 11, 4, 12, 13, 14, 26, 27, 28, 29, 30, 31, 32, 33, 34, 35, 36, 37, 38, 39, 40, 41, 42, 43, 44, 45, 46, 47, 48, 49, 50, 51, 52, 53, 54, 55, 56, 57, 58, 59, 60] (by decide +kernel) (by decide +kernel)
set_option maxRecDepth 20000 in
theorem gX9_rankedAt_X9_takesPart : GoodIn wsX9_rankedAt (wsV RX9 132 RX9 yX9_takesPart wsX9_takesPart) := goodIn_app (goodIn_of _ (by decide +kernel)) ggX9_rankedAt_X9_takesPart
set_option maxRecDepth 20000 in
theorem ggX9_rankedAt_X9_isBetter : GoodIn wsX9_rankedAt wsX9_isBetter := goodIn_r _ [18, 6, 19, 20, 21, 22, 4, 23, 24, 25, 1, 2, 3, 5, 7, 8, 9, 10, 11, 12, 13, 14, 26, 27, 28, 29, 30, 31, 32, 33, 34, 35, 36, 37, 38, 39, 40, 41, 42, 43, 44, 45, 46, 47, 48, 49, 50, 51, 52, 53, 54, 55, 56, 57, 58, 59, 60] (by decide +kernel) (by decide +kernel)
set_option maxRecDepth 20000 in
theorem gX9_rankedAt_X9_isBetter : GoodIn wsX9_rankedAt (wsV RX9 138 RX9 yX9_isBetter wsX9_isBetter) := goodIn_app (goodIn_of _ (by decide +kernel)) ggX9_rankedAt_X9_isBetter
theorem dX9_rankedAt_0 : decode cX9_rankedAt 0 = .ok (.iconst (-1), 1) := by decide +kernel
theorem dX9_rankedAt_1 : decode cX9_rankedAt 1 = .ok (.istore_n 3, 1) := by decide +kernel
theorem dX9_rankedAt_2 : decode cX9_rankedAt 2 = .ok (.iconst 0, 1) := by decide +kernel
theorem dX9_rankedAt_3 : decode cX9_rankedAt 3 = .ok (.istore 4, 2) := by decide +kernel
theorem dX9_rankedAt_5 : decode cX9_rankedAt 5 = .ok (.iload 4, 2) := by decide +kernel
theorem dX9_rankedAt_7 : decode cX9_rankedAt 7 = .ok (.bipush 8, 2) := by decide +kernel
theorem dX9_rankedAt_9 : decode cX9_rankedAt 9 = .ok (.if_icmp .ge 133, 3) := by decide +kernel
theorem dX9_rankedAt_12 : decode cX9_rankedAt 12 = .ok (.iconst 0, 1) := by decide +kernel
theorem dX9_rankedAt_13 : decode cX9_rankedAt 13 = .ok (.istore 5, 2) := by decide +kernel
theorem dX9_rankedAt_15 : decode cX9_rankedAt 15 = .ok (.iconst 0, 1) := by decide +kernel
theorem dX9_rankedAt_16 : decode cX9_rankedAt 16 = .ok (.istore 6, 2) := by decide +kernel
theorem dX9_rankedAt_18 : decode cX9_rankedAt 18 = .ok (.iload 6, 2) := by decide +kernel
theorem dX9_rankedAt_20 : decode cX9_rankedAt 20 = .ok (.bipush 8, 2) := by decide +kernel
theorem dX9_rankedAt_22 : decode cX9_rankedAt 22 = .ok (.if_icmp .ge 87, 3) := by decide +kernel
theorem dX9_rankedAt_25 : decode cX9_rankedAt 25 = .ok (.aload_n 0, 1) := by decide +kernel
theorem dX9_rankedAt_26 : decode cX9_rankedAt 26 = .ok (.bipush 8, 2) := by decide +kernel
theorem dX9_rankedAt_28 : decode cX9_rankedAt 28 = .ok (.iload_n 1, 1) := by decide +kernel
theorem dX9_rankedAt_29 : decode cX9_rankedAt 29 = .ok (.imul, 1) := by decide +kernel
theorem dX9_rankedAt_30 : decode cX9_rankedAt 30 = .ok (.iload 4, 2) := by decide +kernel
theorem dX9_rankedAt_32 : decode cX9_rankedAt 32 = .ok (.iadd, 1) := by decide +kernel
theorem dX9_rankedAt_33 : decode cX9_rankedAt 33 = .ok (.invokevirtual 132, 3) := by decide +kernel
theorem dX9_rankedAt_36 : decode cX9_rankedAt 36 = .ok (.ifCond .eq 28, 3) := by decide +kernel
theorem dX9_rankedAt_39 : decode cX9_rankedAt 39 = .ok (.aload_n 0, 1) := by decide +kernel
theorem dX9_rankedAt_40 : decode cX9_rankedAt 40 = .ok (.bipush 8, 2) := by decide +kernel
theorem dX9_rankedAt_42 : decode cX9_rankedAt 42 = .ok (.iload_n 1, 1) := by decide +kernel
theorem dX9_rankedAt_43 : decode cX9_rankedAt 43 = .ok (.imul, 1) := by decide +kernel
theorem dX9_rankedAt_44 : decode cX9_rankedAt 44 = .ok (.iload 6, 2) := by decide +kernel
theorem dX9_rankedAt_46 : decode cX9_rankedAt 46 = .ok (.iadd, 1) := by decide +kernel
theorem dX9_rankedAt_47 : decode cX9_rankedAt 47 = .ok (.invokevirtual 132, 3) := by decide +kernel
theorem dX9_rankedAt_50 : decode cX9_rankedAt 50 = .ok (.ifCond .eq 14, 3) := by decide +kernel
theorem dX9_rankedAt_53 : decode cX9_rankedAt 53 = .ok (.iload 6, 2) := by decide +kernel
theorem dX9_rankedAt_55 : decode cX9_rankedAt 55 = .ok (.iload 4, 2) := by decide +kernel
theorem dX9_rankedAt_57 : decode cX9_rankedAt 57 = .ok (.if_icmp .eq 7, 3) := by decide +kernel
theorem dX9_rankedAt_60 : decode cX9_rankedAt 60 = .ok (.iconst 1, 1) := by decide +kernel
theorem dX9_rankedAt_61 : decode cX9_rankedAt 61 = .ok (.goto 4, 3) := by decide +kernel
theorem dX9_rankedAt_64 : decode cX9_rankedAt 64 = .ok (.iconst 0, 1) := by decide +kernel
theorem dX9_rankedAt_65 : decode cX9_rankedAt 65 = .ok (.istore 7, 2) := by decide +kernel
theorem dX9_rankedAt_67 : decode cX9_rankedAt 67 = .ok (.iload 5, 2) := by decide +kernel
theorem dX9_rankedAt_69 : decode cX9_rankedAt 69 = .ok (.iload 7, 2) := by decide +kernel
theorem dX9_rankedAt_71 : decode cX9_rankedAt 71 = .ok (.ifCond .eq 28, 3) := by decide +kernel
theorem dX9_rankedAt_74 : decode cX9_rankedAt 74 = .ok (.aload_n 0, 1) := by decide +kernel
theorem dX9_rankedAt_75 : decode cX9_rankedAt 75 = .ok (.bipush 8, 2) := by decide +kernel
theorem dX9_rankedAt_77 : decode cX9_rankedAt 77 = .ok (.iload_n 1, 1) := by decide +kernel
theorem dX9_rankedAt_78 : decode cX9_rankedAt 78 = .ok (.imul, 1) := by decide +kernel
theorem dX9_rankedAt_79 : decode cX9_rankedAt 79 = .ok (.iload 6, 2) := by decide +kernel
theorem dX9_rankedAt_81 : decode cX9_rankedAt 81 = .ok (.iadd, 1) := by decide +kernel
theorem dX9_rankedAt_82 : decode cX9_rankedAt 82 = .ok (.bipush 8, 2) := by decide +kernel
theorem dX9_rankedAt_84 : decode cX9_rankedAt 84 = .ok (.iload_n 1, 1) := by decide +kernel
theorem dX9_rankedAt_85 : decode cX9_rankedAt 85 = .ok (.imul, 1) := by decide +kernel
theorem dX9_rankedAt_86 : decode cX9_rankedAt 86 = .ok (.iload 4, 2) := by decide +kernel
theorem dX9_rankedAt_88 : decode cX9_rankedAt 88 = .ok (.iadd, 1) := by decide +kernel
theorem dX9_rankedAt_89 : decode cX9_rankedAt 89 = .ok (.invokevirtual 138, 3) := by decide +kernel
theorem dX9_rankedAt_92 : decode cX9_rankedAt 92 = .ok (.ifCond .eq 7, 3) := by decide +kernel
theorem dX9_rankedAt_95 : decode cX9_rankedAt 95 = .ok (.iconst 1, 1) := by decide +kernel
theorem dX9_rankedAt_96 : decode cX9_rankedAt 96 = .ok (.goto 4, 3) := by decide +kernel
theorem dX9_rankedAt_99 : decode cX9_rankedAt 99 = .ok (.iconst 0, 1) := by decide +kernel
theorem dX9_rankedAt_100 : decode cX9_rankedAt 100 = .ok (.iadd, 1) := by decide +kernel
theorem dX9_rankedAt_101 : decode cX9_rankedAt 101 = .ok (.istore 5, 2) := by decide +kernel
theorem dX9_rankedAt_103 : decode cX9_rankedAt 103 = .ok (.iinc 6 1, 3) := by decide +kernel
theorem dX9_rankedAt_106 : decode cX9_rankedAt 106 = .ok (.goto (-88), 3) := by decide +kernel
theorem dX9_rankedAt_109 : decode cX9_rankedAt 109 = .ok (.aload_n 0, 1) := by decide +kernel
theorem dX9_rankedAt_110 : decode cX9_rankedAt 110 = .ok (.bipush 8, 2) := by decide +kernel
theorem dX9_rankedAt_112 : decode cX9_rankedAt 112 = .ok (.iload_n 1, 1) := by decide +kernel
theorem dX9_rankedAt_113 : decode cX9_rankedAt 113 = .ok (.imul, 1) := by decide +kernel
theorem dX9_rankedAt_114 : decode cX9_rankedAt 114 = .ok (.iload 4, 2) := by decide +kernel
theorem dX9_rankedAt_116 : decode cX9_rankedAt 116 = .ok (.iadd, 1) := by decide +kernel
theorem dX9_rankedAt_117 : decode cX9_rankedAt 117 = .ok (.invokevirtual 132, 3) := by decide +kernel
theorem dX9_rankedAt_120 : decode cX9_rankedAt 120 = .ok (.ifCond .eq 14, 3) := by decide +kernel
theorem dX9_rankedAt_123 : decode cX9_rankedAt 123 = .ok (.iload 5, 2) := by decide +kernel
theorem dX9_rankedAt_125 : decode cX9_rankedAt 125 = .ok (.iload_n 2, 1) := by decide +kernel
theorem dX9_rankedAt_126 : decode cX9_rankedAt 126 = .ok (.if_icmp .ne 8, 3) := by decide +kernel
theorem dX9_rankedAt_129 : decode cX9_rankedAt 129 = .ok (.iload 4, 2) := by decide +kernel
theorem dX9_rankedAt_131 : decode cX9_rankedAt 131 = .ok (.goto 4, 3) := by decide +kernel
theorem dX9_rankedAt_134 : decode cX9_rankedAt 134 = .ok (.iload_n 3, 1) := by decide +kernel
theorem dX9_rankedAt_135 : decode cX9_rankedAt 135 = .ok (.istore_n 3, 1) := by decide +kernel
theorem dX9_rankedAt_136 : decode cX9_rankedAt 136 = .ok (.iinc 4 1, 3) := by decide +kernel
theorem dX9_rankedAt_139 : decode cX9_rankedAt 139 = .ok (.goto (-134), 3) := by decide +kernel
theorem dX9_rankedAt_142 : decode cX9_rankedAt 142 = .ok (.iload_n 3, 1) := by decide +kernel
theorem dX9_rankedAt_143 : decode cX9_rankedAt 143 = .ok (.ireturn, 1) := by decide +kernel
theorem dX9_today_0 : decode cX9_today 0 = .ok (.aload_n 0, 1) := by decide +kernel
theorem dX9_today_1 : decode cX9_today 1 = .ok (.iconst 0, 1) := by decide +kernel
theorem dX9_today_2 : decode cX9_today 2 = .ok (.putfield 93, 3) := by decide +kernel
theorem dX9_today_5 : decode cX9_today 5 = .ok (.aload_n 0, 1) := by decide +kernel
theorem dX9_today_6 : decode cX9_today 6 = .ok (.getfield 108, 3) := by decide +kernel
theorem dX9_today_9 : decode cX9_today 9 = .ok (.ireturn, 1) := by decide +kernel
set_option maxRecDepth 20000 in
theorem ggX9_asksBid_X9_isBidder : GoodIn wsX9_asksBid wsX9_isBidder := goodIn_r _ [5, 6, 7, 4, 8] (by decide +kernel) (by decide +kernel)
set_option maxRecDepth 20000 in
theorem gX9_asksBid_X9_isBidder : GoodIn wsX9_asksBid (va_wsS RX9 114 yX9_isBidder wsX9_isBidder) := goodIn_app (goodIn_of _ (by decide +kernel)) ggX9_asksBid_X9_isBidder
set_option maxRecDepth 20000 in
theorem ggX9_asksBid_X9_isLot : GoodIn wsX9_asksBid wsX9_isLot := goodIn_r _ [12, 13, 14, 15, 16, 4, 17, 18, 6, 7, 8, 19, 20, 21, 22, 23, 24, 25, 26, 27, 28, 29, 30, 31, 32, 33, 34, 35, 36, 37, 38, 39, 40, 41, 42, 43, 44, 45, 46, 47, 48, 49, 50, 51, 52, 53] (by decide +kernel) (by decide +kernel)
set_option maxRecDepth 20000 in
theorem gX9_asksBid_X9_isLot : GoodIn wsX9_asksBid (wsV RX9 118 RX9 yX9_isLot wsX9_isLot) := goodIn_app (goodIn_of _ (by decide +kernel)) ggX9_asksBid_X9_isLot
theorem dX9_asksBid_0 : decode cX9_asksBid 0 = .ok (.aload_n 0, 1) := by decide +kernel
theorem dX9_asksBid_1 : decode cX9_asksBid 1 = .ok (.iload_n 1, 1) := by decide +kernel
theorem dX9_asksBid_2 : decode cX9_asksBid 2 = .ok (.invokestatic 114, 3) := by decide +kernel
theorem dX9_asksBid_5 : decode cX9_asksBid 5 = .ok (.ifCond .eq 16, 3) := by decide +kernel
theorem dX9_asksBid_8 : decode cX9_asksBid 8 = .ok (.aload_n 0, 1) := by decide +kernel
theorem dX9_asksBid_9 : decode cX9_asksBid 9 = .ok (.iload_n 2, 1) := by decide +kernel
theorem dX9_asksBid_10 : decode cX9_asksBid 10 = .ok (.iload_n 3, 1) := by decide +kernel
theorem dX9_asksBid_11 : decode cX9_asksBid 11 = .ok (.invokevirtual 118, 3) := by decide +kernel
theorem dX9_asksBid_14 : decode cX9_asksBid 14 = .ok (.ifCond .eq 7, 3) := by decide +kernel
theorem dX9_asksBid_17 : decode cX9_asksBid 17 = .ok (.iconst 0, 1) := by decide +kernel
theorem dX9_asksBid_18 : decode cX9_asksBid 18 = .ok (.goto 4, 3) := by decide +kernel
theorem dX9_asksBid_21 : decode cX9_asksBid 21 = .ok (.iconst 1, 1) := by decide +kernel
theorem dX9_asksBid_22 : decode cX9_asksBid 22 = .ok (.putfield 93, 3) := by decide +kernel
theorem dX9_asksBid_25 : decode cX9_asksBid 25 = .ok (.aload_n 0, 1) := by decide +kernel
theorem dX9_asksBid_26 : decode cX9_asksBid 26 = .ok (.getfield 93, 3) := by decide +kernel
theorem dX9_asksBid_29 : decode cX9_asksBid 29 = .ok (.ifCond .ne 7, 3) := by decide +kernel
theorem dX9_asksBid_32 : decode cX9_asksBid 32 = .ok (.iconst 1, 1) := by decide +kernel
theorem dX9_asksBid_33 : decode cX9_asksBid 33 = .ok (.goto 4, 3) := by decide +kernel
theorem dX9_asksBid_36 : decode cX9_asksBid 36 = .ok (.iconst 0, 1) := by decide +kernel
theorem dX9_asksBid_37 : decode cX9_asksBid 37 = .ok (.ireturn, 1) := by decide +kernel
set_option maxRecDepth 20000 in
theorem ggX9_isIn_X9_asksBid : GoodIn wsX9_isIn wsX9_asksBid := goodIn_r _ [5, 6, 7, 8, 4, 9, 10, 11, 12, 13, 14, 15, 16, 17, 18, 19, 20, 21, 22, 36, 37, 38, 39, 40, 41, 42, 43, 44, 45, 46, 47, 48, 49, 50, 51, 52, 53, 54, 55, 56, 57, 58, 59, 60, 61, 62, 63, 64, 65, 66, 67, 68, 69, 70] (by decide +kernel) (by decide +kernel)
set_option maxRecDepth 20000 in
theorem gX9_isIn_X9_asksBid : GoodIn wsX9_isIn (wsV RX9 141 RX9 yX9_asksBid wsX9_asksBid) := goodIn_app (goodIn_of _ (by decide +kernel)) ggX9_isIn_X9_asksBid
set_option maxRecDepth 20000 in
theorem ggX9_isIn_X9_takesPart : GoodIn wsX9_isIn wsX9_takesPart := goodIn_r _ [26, 27, 28, 29, 30, 31, 32, 4, 33, 34, 35, 36, 37, 38, 39, 40, 41, 42, 43, 44, 45, 46, 47, 48, 49, 50, 51, 52, 53, 54, 55, 56, 57, 58, 59, 60, 61, 62, 63, 64, 65, 66, 67, 68, 69, 70] (by decide +kernel) (by decide +kernel)
set_option maxRecDepth 20000 in
theorem gX9_isIn_X9_takesPart : GoodIn wsX9_isIn (wsV RX9 132 RX9 yX9_takesPart wsX9_takesPart) := goodIn_app (goodIn_of _ (by decide +kernel)) ggX9_isIn_X9_takesPart
theorem dX9_isIn_0 : decode cX9_isIn 0 = .ok (.aload_n 0, 1) := by decide +kernel
theorem dX9_isIn_1 : decode cX9_isIn 1 = .ok (.iload_n 1, 1) := by decide +kernel
theorem dX9_isIn_2 : decode cX9_isIn 2 = .ok (.iload_n 2, 1) := by decide +kernel
theorem dX9_isIn_3 : decode cX9_isIn 3 = .ok (.iload_n 3, 1) := by decide +kernel
theorem dX9_isIn_4 : decode cX9_isIn 4 = .ok (.invokevirtual 141, 3) := by decide +kernel
theorem dX9_isIn_7 : decode cX9_isIn 7 = .ok (.ifCond .eq 24, 3) := by decide +kernel
theorem dX9_isIn_10 : decode cX9_isIn 10 = .ok (.aload_n 0, 1) := by decide +kernel
theorem dX9_isIn_11 : decode cX9_isIn 11 = .ok (.bipush 8, 2) := by decide +kernel
theorem dX9_isIn_13 : decode cX9_isIn 13 = .ok (.iconst 3, 1) := by decide +kernel
theorem dX9_isIn_14 : decode cX9_isIn 14 = .ok (.iload_n 2, 1) := by decide +kernel
theorem dX9_isIn_15 : decode cX9_isIn 15 = .ok (.imul, 1) := by decide +kernel
theorem dX9_isIn_16 : decode cX9_isIn 16 = .ok (.iload_n 3, 1) := by decide +kernel
theorem dX9_isIn_17 : decode cX9_isIn 17 = .ok (.iadd, 1) := by decide +kernel
theorem dX9_isIn_18 : decode cX9_isIn 18 = .ok (.imul, 1) := by decide +kernel
theorem dX9_isIn_19 : decode cX9_isIn 19 = .ok (.iload_n 1, 1) := by decide +kernel
theorem dX9_isIn_20 : decode cX9_isIn 20 = .ok (.iadd, 1) := by decide +kernel
theorem dX9_isIn_21 : decode cX9_isIn 21 = .ok (.invokevirtual 132, 3) := by decide +kernel
theorem dX9_isIn_24 : decode cX9_isIn 24 = .ok (.ifCond .eq 7, 3) := by decide +kernel
theorem dX9_isIn_27 : decode cX9_isIn 27 = .ok (.iconst 1, 1) := by decide +kernel
theorem dX9_isIn_28 : decode cX9_isIn 28 = .ok (.goto 4, 3) := by decide +kernel
theorem dX9_isIn_31 : decode cX9_isIn 31 = .ok (.iconst 0, 1) := by decide +kernel
theorem dX9_isIn_32 : decode cX9_isIn 32 = .ok (.ireturn, 1) := by decide +kernel
set_option maxRecDepth 20000 in
theorem ggX9_score_X9_asksBid : GoodIn wsX9_score wsX9_asksBid := goodIn_r _ [5, 6, 7, 8, 4, 9, 10, 11, 12, 13, 14, 15, 16, 17, 18, 19, 20, 21, 22, 42, 43, 44, 45, 46, 47, 48, 49, 50, 51, 52, 53, 54, 55, 56, 57, 58, 59, 60, 61, 62, 63, 64, 65, 66, 67, 68, 69, 70, 71, 72, 73, 74, 75, 76] (by decide +kernel) (by decide +kernel)
set_option maxRecDepth 20000 in
theorem gX9_score_X9_asksBid : GoodIn wsX9_score (wsV RX9 141 RX9 yX9_asksBid wsX9_asksBid) := goodIn_app (goodIn_of _ (by decide +kernel)) ggX9_score_X9_asksBid
set_option maxRecDepth 20000 in
theorem ggX9_score_X9_takesPart : GoodIn wsX9_score wsX9_takesPart := goodIn_r _ [26, 27, 28, 29, 30, 31, 32, 4, 33, 34, 35, 42, 43, 44, 45, 46, 47, 48, 49, 50, 51, 52, 53, 54, 55, 56, 57, 58, 59, 60, 61, 62, 63, 64, 65, 66, 67, 68, 69, 70, 71, 72, 73, 74, 75, 76] (by decide +kernel) (by decide +kernel)
set_option maxRecDepth 20000 in
theorem gX9_score_X9_takesPart : GoodIn wsX9_score (wsV RX9 132 RX9 yX9_takesPart wsX9_takesPart) := goodIn_app (goodIn_of _ (by decide +kernel)) ggX9_score_X9_takesPart
set_option maxRecDepth 20000 in
theorem ggX9_score_X9_scoreOf : GoodIn wsX9_score wsX9_scoreOf := goodIn_r _ [39, 27, 40, 41, 23, 24, 25, 4, 26, 28, 29, 30, 31, 32, 33, 34, 35, 42, 43, 44, 45, 46, 47, 48, 49, 50, 51, 52, 53, 54, 55, 56, 57, 58, 59, 60, 61, 62, 63, 64, 65, 66, 67, 68, 69, 70, 71, 72, 73, 74, 75, 76] (by decide +kernel) (by decide +kernel)
set_option maxRecDepth 20000 in
theorem gX9_score_X9_scoreOf : GoodIn wsX9_score (wsV RX9 135 RX9 yX9_scoreOf wsX9_scoreOf) := goodIn_app (goodIn_of _ (by decide +kernel)) ggX9_score_X9_scoreOf
theorem dX9_score_0 : decode cX9_score 0 = .ok (.aload_n 0, 1) := by decide +kernel
theorem dX9_score_1 : decode cX9_score 1 = .ok (.iload_n 1, 1) := by decide +kernel
theorem dX9_score_2 : decode cX9_score 2 = .ok (.iload_n 2, 1) := by decide +kernel
theorem dX9_score_3 : decode cX9_score 3 = .ok (.iload_n 3, 1) := by decide +kernel
theorem dX9_score_4 : decode cX9_score 4 = .ok (.invokevirtual 141, 3) := by decide +kernel
theorem dX9_score_7 : decode cX9_score 7 = .ok (.ifCond .ne 5, 3) := by decide +kernel
theorem dX9_score_10 : decode cX9_score 10 = .ok (.iconst 0, 1) := by decide +kernel
theorem dX9_score_11 : decode cX9_score 11 = .ok (.ireturn, 1) := by decide +kernel
theorem dX9_score_12 : decode cX9_score 12 = .ok (.bipush 8, 2) := by decide +kernel
theorem dX9_score_14 : decode cX9_score 14 = .ok (.iconst 3, 1) := by decide +kernel
theorem dX9_score_15 : decode cX9_score 15 = .ok (.iload_n 2, 1) := by decide +kernel
theorem dX9_score_16 : decode cX9_score 16 = .ok (.imul, 1) := by decide +kernel
theorem dX9_score_17 : decode cX9_score 17 = .ok (.iload_n 3, 1) := by decide +kernel
theorem dX9_score_18 : decode cX9_score 18 = .ok (.iadd, 1) := by decide +kernel
theorem dX9_score_19 : decode cX9_score 19 = .ok (.imul, 1) := by decide +kernel
theorem dX9_score_20 : decode cX9_score 20 = .ok (.iload_n 1, 1) := by decide +kernel
theorem dX9_score_21 : decode cX9_score 21 = .ok (.iadd, 1) := by decide +kernel
theorem dX9_score_22 : decode cX9_score 22 = .ok (.istore 4, 2) := by decide +kernel
theorem dX9_score_24 : decode cX9_score 24 = .ok (.aload_n 0, 1) := by decide +kernel
theorem dX9_score_25 : decode cX9_score 25 = .ok (.iload 4, 2) := by decide +kernel
theorem dX9_score_27 : decode cX9_score 27 = .ok (.invokevirtual 132, 3) := by decide +kernel
theorem dX9_score_30 : decode cX9_score 30 = .ok (.ifCond .eq 12, 3) := by decide +kernel
theorem dX9_score_33 : decode cX9_score 33 = .ok (.aload_n 0, 1) := by decide +kernel
theorem dX9_score_34 : decode cX9_score 34 = .ok (.iload 4, 2) := by decide +kernel
theorem dX9_score_36 : decode cX9_score 36 = .ok (.invokevirtual 135, 3) := by decide +kernel
theorem dX9_score_39 : decode cX9_score 39 = .ok (.goto 4, 3) := by decide +kernel
theorem dX9_score_42 : decode cX9_score 42 = .ok (.iconst (-1), 1) := by decide +kernel
theorem dX9_score_43 : decode cX9_score 43 = .ok (.ireturn, 1) := by decide +kernel
set_option maxRecDepth 20000 in
theorem ggX9_ranked_X9_isLot : GoodIn wsX9_ranked wsX9_isLot := goodIn_r _ [6, 7, 8, 9, 10, 5, 11, 12, 13, 14, 15, 44, 45, 46, 47, 48, 49, 50, 51, 52, 53, 54, 55, 56, 57, 58, 59, 60, 61, 62, 63, 64, 65, 66, 67, 68, 69, 70, 71, 72, 73, 74, 75, 76, 77, 78] (by decide +kernel) (by decide +kernel)
set_option maxRecDepth 20000 in
theorem gX9_ranked_X9_isLot : GoodIn wsX9_ranked (wsV RX9 118 RX9 yX9_isLot wsX9_isLot) := goodIn_app (goodIn_of _ (by decide +kernel)) ggX9_ranked_X9_isLot
set_option maxRecDepth 20000 in
theorem ggX9_ranked_X9_rankedAt : GoodIn wsX9_ranked wsX9_rankedAt := goodIn_r _ [19, 20, 21, 22, 5, 23, 24, 25, 26, 27, 28, 29, 30, 31, 32, 33, 34, 35, 36, 37, 38, 39, 40, 41, 42, 43, 44, 45, 46, 47, 48, 49, 50, 51, 52, 53, 54, 55, 56, 57, 58, 59, 60, 61, 62, 63, 64, 65, 66, 67, 68, 69, 70, 71, 72, 73, 74, 75, 76, 77, 78] (by decide +kernel) (by decide +kernel)
set_option maxRecDepth 20000 in
theorem gX9_ranked_X9_rankedAt : GoodIn wsX9_ranked (wsV RX9 144 RX9 yX9_rankedAt wsX9_rankedAt) := goodIn_app (goodIn_of _ (by decide +kernel)) ggX9_ranked_X9_rankedAt
theorem dX9_ranked_0 : decode cX9_ranked 0 = .ok (.aload_n 0, 1) := by decide +kernel
theorem dX9_ranked_1 : decode cX9_ranked 1 = .ok (.aload_n 0, 1) := by decide +kernel
theorem dX9_ranked_2 : decode cX9_ranked 2 = .ok (.iload_n 1, 1) := by decide +kernel
theorem dX9_ranked_3 : decode cX9_ranked 3 = .ok (.iload_n 2, 1) := by decide +kernel
theorem dX9_ranked_4 : decode cX9_ranked 4 = .ok (.invokevirtual 118, 3) := by decide +kernel
theorem dX9_ranked_7 : decode cX9_ranked 7 = .ok (.ifCond .ne 7, 3) := by decide +kernel
theorem dX9_ranked_10 : decode cX9_ranked 10 = .ok (.iconst 1, 1) := by decide +kernel
theorem dX9_ranked_11 : decode cX9_ranked 11 = .ok (.goto 12, 3) := by decide +kernel
theorem dX9_ranked_14 : decode cX9_ranked 14 = .ok (.iload_n 3, 1) := by decide +kernel
theorem dX9_ranked_15 : decode cX9_ranked 15 = .ok (.ifCond .ge 7, 3) := by decide +kernel
theorem dX9_ranked_18 : decode cX9_ranked 18 = .ok (.iconst 2, 1) := by decide +kernel
theorem dX9_ranked_19 : decode cX9_ranked 19 = .ok (.goto 4, 3) := by decide +kernel
theorem dX9_ranked_22 : decode cX9_ranked 22 = .ok (.iconst 0, 1) := by decide +kernel
theorem dX9_ranked_23 : decode cX9_ranked 23 = .ok (.putfield 93, 3) := by decide +kernel
theorem dX9_ranked_26 : decode cX9_ranked 26 = .ok (.aload_n 0, 1) := by decide +kernel
theorem dX9_ranked_27 : decode cX9_ranked 27 = .ok (.getfield 93, 3) := by decide +kernel
theorem dX9_ranked_30 : decode cX9_ranked 30 = .ok (.ifCond .le 7, 3) := by decide +kernel
theorem dX9_ranked_33 : decode cX9_ranked 33 = .ok (.iconst 0, 1) := by decide +kernel
theorem dX9_ranked_34 : decode cX9_ranked 34 = .ok (.goto 13, 3) := by decide +kernel
theorem dX9_ranked_37 : decode cX9_ranked 37 = .ok (.aload_n 0, 1) := by decide +kernel
theorem dX9_ranked_38 : decode cX9_ranked 38 = .ok (.iconst 3, 1) := by decide +kernel
theorem dX9_ranked_39 : decode cX9_ranked 39 = .ok (.iload_n 1, 1) := by decide +kernel
theorem dX9_ranked_40 : decode cX9_ranked 40 = .ok (.imul, 1) := by decide +kernel
theorem dX9_ranked_41 : decode cX9_ranked 41 = .ok (.iload_n 2, 1) := by decide +kernel
theorem dX9_ranked_42 : decode cX9_ranked 42 = .ok (.iadd, 1) := by decide +kernel
theorem dX9_ranked_43 : decode cX9_ranked 43 = .ok (.iload_n 3, 1) := by decide +kernel
theorem dX9_ranked_44 : decode cX9_ranked 44 = .ok (.invokevirtual 144, 3) := by decide +kernel
theorem dX9_ranked_47 : decode cX9_ranked 47 = .ok (.ireturn, 1) := by decide +kernel
theorem dX9_openOnes_0 : decode cX9_openOnes 0 = .ok (.iconst 0, 1) := by decide +kernel
theorem dX9_openOnes_1 : decode cX9_openOnes 1 = .ok (.istore_n 2, 1) := by decide +kernel
theorem dX9_openOnes_2 : decode cX9_openOnes 2 = .ok (.iconst 0, 1) := by decide +kernel
theorem dX9_openOnes_3 : decode cX9_openOnes 3 = .ok (.istore_n 3, 1) := by decide +kernel
theorem dX9_openOnes_4 : decode cX9_openOnes 4 = .ok (.iload_n 3, 1) := by decide +kernel
theorem dX9_openOnes_5 : decode cX9_openOnes 5 = .ok (.aload_n 0, 1) := by decide +kernel
theorem dX9_openOnes_6 : decode cX9_openOnes 6 = .ok (.getfield 148, 3) := by decide +kernel
theorem dX9_openOnes_9 : decode cX9_openOnes 9 = .ok (.if_icmp .ge 36, 3) := by decide +kernel
theorem dX9_openOnes_12 : decode cX9_openOnes 12 = .ok (.iload_n 2, 1) := by decide +kernel
theorem dX9_openOnes_13 : decode cX9_openOnes 13 = .ok (.aload_n 0, 1) := by decide +kernel
theorem dX9_openOnes_14 : decode cX9_openOnes 14 = .ok (.getfield 62, 3) := by decide +kernel
theorem dX9_openOnes_17 : decode cX9_openOnes 17 = .ok (.iload_n 3, 1) := by decide +kernel
theorem dX9_openOnes_18 : decode cX9_openOnes 18 = .ok (.iaload, 1) := by decide +kernel
theorem dX9_openOnes_19 : decode cX9_openOnes 19 = .ok (.iload_n 1, 1) := by decide +kernel
theorem dX9_openOnes_20 : decode cX9_openOnes 20 = .ok (.if_icmp .ne 16, 3) := by decide +kernel
theorem dX9_openOnes_23 : decode cX9_openOnes 23 = .ok (.aload_n 0, 1) := by decide +kernel
theorem dX9_openOnes_24 : decode cX9_openOnes 24 = .ok (.getfield 71, 3) := by decide +kernel
theorem dX9_openOnes_27 : decode cX9_openOnes 27 = .ok (.iload_n 3, 1) := by decide +kernel
theorem dX9_openOnes_28 : decode cX9_openOnes 28 = .ok (.iaload, 1) := by decide +kernel
theorem dX9_openOnes_29 : decode cX9_openOnes 29 = .ok (.ifCond .ne 7, 3) := by decide +kernel
theorem dX9_openOnes_32 : decode cX9_openOnes 32 = .ok (.iconst 1, 1) := by decide +kernel
theorem dX9_openOnes_33 : decode cX9_openOnes 33 = .ok (.goto 4, 3) := by decide +kernel
theorem dX9_openOnes_36 : decode cX9_openOnes 36 = .ok (.iconst 0, 1) := by decide +kernel
theorem dX9_openOnes_37 : decode cX9_openOnes 37 = .ok (.iadd, 1) := by decide +kernel
theorem dX9_openOnes_38 : decode cX9_openOnes 38 = .ok (.istore_n 2, 1) := by decide +kernel
theorem dX9_openOnes_39 : decode cX9_openOnes 39 = .ok (.iinc 3 1, 3) := by decide +kernel
theorem dX9_openOnes_42 : decode cX9_openOnes 42 = .ok (.goto (-38), 3) := by decide +kernel
theorem dX9_openOnes_45 : decode cX9_openOnes 45 = .ok (.iload_n 2, 1) := by decide +kernel
theorem dX9_openOnes_46 : decode cX9_openOnes 46 = .ok (.ireturn, 1) := by decide +kernel
theorem dX9_standsUntil_0 : decode cX9_standsUntil 0 = .ok (.aload_n 0, 1) := by decide +kernel
theorem dX9_standsUntil_1 : decode cX9_standsUntil 1 = .ok (.getfield 53, 3) := by decide +kernel
theorem dX9_standsUntil_4 : decode cX9_standsUntil 4 = .ok (.iload_n 1, 1) := by decide +kernel
theorem dX9_standsUntil_5 : decode cX9_standsUntil 5 = .ok (.iaload, 1) := by decide +kernel
theorem dX9_standsUntil_6 : decode cX9_standsUntil 6 = .ok (.aload_n 0, 1) := by decide +kernel
theorem dX9_standsUntil_7 : decode cX9_standsUntil 7 = .ok (.getfield 22, 3) := by decide +kernel
theorem dX9_standsUntil_10 : decode cX9_standsUntil 10 = .ok (.aload_n 0, 1) := by decide +kernel
theorem dX9_standsUntil_11 : decode cX9_standsUntil 11 = .ok (.getfield 47, 3) := by decide +kernel
theorem dX9_standsUntil_14 : decode cX9_standsUntil 14 = .ok (.iload_n 1, 1) := by decide +kernel
theorem dX9_standsUntil_15 : decode cX9_standsUntil 15 = .ok (.iaload, 1) := by decide +kernel
theorem dX9_standsUntil_16 : decode cX9_standsUntil 16 = .ok (.iconst 3, 1) := by decide +kernel
theorem dX9_standsUntil_17 : decode cX9_standsUntil 17 = .ok (.idiv, 1) := by decide +kernel
theorem dX9_standsUntil_18 : decode cX9_standsUntil 18 = .ok (.iaload, 1) := by decide +kernel
theorem dX9_standsUntil_19 : decode cX9_standsUntil 19 = .ok (.iadd, 1) := by decide +kernel
theorem dX9_standsUntil_20 : decode cX9_standsUntil 20 = .ok (.ireturn, 1) := by decide +kernel
set_option maxRecDepth 20000 in
theorem ggX9_isFinalNow_X9_openOnes : GoodIn wsX9_isFinalNow wsX9_openOnes := goodIn_r _ [7, 8, 9, 10, 18, 19, 20, 21, 22, 23, 24, 25, 26, 27, 28, 29, 30, 31, 32, 33, 34, 35, 36, 37, 38, 39, 40, 41, 42, 43, 44, 45, 46, 47, 48, 49, 50, 51, 52] (by decide +kernel) (by decide +kernel)
set_option maxRecDepth 20000 in
theorem gX9_isFinalNow_X9_openOnes : GoodIn wsX9_isFinalNow (wsV RX9 151 RX9 yX9_openOnes wsX9_openOnes) := goodIn_app (goodIn_of _ (by decide +kernel)) ggX9_isFinalNow_X9_openOnes
set_option maxRecDepth 20000 in
theorem ggX9_isFinalNow_X9_standsUntil : GoodIn wsX9_isFinalNow wsX9_standsUntil := goodIn_r _ [14, 15, 16, 17, 18, 19, 20, 21, 22, 23, 24, 25, 26, 27, 28, 29, 30, 31, 32, 33, 34, 35, 36, 37, 38, 39, 40, 41, 42, 43, 44, 45, 46, 47, 48, 49, 50, 51, 52] (by decide +kernel) (by decide +kernel)
set_option maxRecDepth 20000 in
theorem gX9_isFinalNow_X9_standsUntil : GoodIn wsX9_isFinalNow (wsV RX9 154 RX9 yX9_standsUntil wsX9_standsUntil) := goodIn_app (goodIn_of _ (by decide +kernel)) ggX9_isFinalNow_X9_standsUntil
theorem dX9_isFinalNow_0 : decode cX9_isFinalNow 0 = .ok (.aload_n 0, 1) := by decide +kernel
theorem dX9_isFinalNow_1 : decode cX9_isFinalNow 1 = .ok (.getfield 56, 3) := by decide +kernel
theorem dX9_isFinalNow_4 : decode cX9_isFinalNow 4 = .ok (.iload_n 1, 1) := by decide +kernel
theorem dX9_isFinalNow_5 : decode cX9_isFinalNow 5 = .ok (.baload, 1) := by decide +kernel
theorem dX9_isFinalNow_6 : decode cX9_isFinalNow 6 = .ok (.ifCond .ne 27, 3) := by decide +kernel
theorem dX9_isFinalNow_9 : decode cX9_isFinalNow 9 = .ok (.aload_n 0, 1) := by decide +kernel
theorem dX9_isFinalNow_10 : decode cX9_isFinalNow 10 = .ok (.iload_n 1, 1) := by decide +kernel
theorem dX9_isFinalNow_11 : decode cX9_isFinalNow 11 = .ok (.invokevirtual 151, 3) := by decide +kernel
theorem dX9_isFinalNow_14 : decode cX9_isFinalNow 14 = .ok (.ifCond .ne 19, 3) := by decide +kernel
theorem dX9_isFinalNow_17 : decode cX9_isFinalNow 17 = .ok (.aload_n 0, 1) := by decide +kernel
theorem dX9_isFinalNow_18 : decode cX9_isFinalNow 18 = .ok (.getfield 108, 3) := by decide +kernel
theorem dX9_isFinalNow_21 : decode cX9_isFinalNow 21 = .ok (.aload_n 0, 1) := by decide +kernel
theorem dX9_isFinalNow_22 : decode cX9_isFinalNow 22 = .ok (.iload_n 1, 1) := by decide +kernel
theorem dX9_isFinalNow_23 : decode cX9_isFinalNow 23 = .ok (.invokevirtual 154, 3) := by decide +kernel
theorem dX9_isFinalNow_26 : decode cX9_isFinalNow 26 = .ok (.if_icmp .lt 7, 3) := by decide +kernel
theorem dX9_isFinalNow_29 : decode cX9_isFinalNow 29 = .ok (.iconst 1, 1) := by decide +kernel
theorem dX9_isFinalNow_30 : decode cX9_isFinalNow 30 = .ok (.goto 4, 3) := by decide +kernel
theorem dX9_isFinalNow_33 : decode cX9_isFinalNow 33 = .ok (.iconst 0, 1) := by decide +kernel
theorem dX9_isFinalNow_34 : decode cX9_isFinalNow 34 = .ok (.ireturn, 1) := by decide +kernel
theorem dX9_awardFor_0 : decode cX9_awardFor 0 = .ok (.iconst (-1), 1) := by decide +kernel
theorem dX9_awardFor_1 : decode cX9_awardFor 1 = .ok (.istore_n 2, 1) := by decide +kernel
theorem dX9_awardFor_2 : decode cX9_awardFor 2 = .ok (.iconst 0, 1) := by decide +kernel
theorem dX9_awardFor_3 : decode cX9_awardFor 3 = .ok (.istore_n 3, 1) := by decide +kernel
theorem dX9_awardFor_4 : decode cX9_awardFor 4 = .ok (.iload_n 3, 1) := by decide +kernel
theorem dX9_awardFor_5 : decode cX9_awardFor 5 = .ok (.aload_n 0, 1) := by decide +kernel
theorem dX9_awardFor_6 : decode cX9_awardFor 6 = .ok (.getfield 157, 3) := by decide +kernel
theorem dX9_awardFor_9 : decode cX9_awardFor 9 = .ok (.if_icmp .ge 34, 3) := by decide +kernel
theorem dX9_awardFor_12 : decode cX9_awardFor 12 = .ok (.aload_n 0, 1) := by decide +kernel
theorem dX9_awardFor_13 : decode cX9_awardFor 13 = .ok (.getfield 47, 3) := by decide +kernel
theorem dX9_awardFor_16 : decode cX9_awardFor 16 = .ok (.iload_n 3, 1) := by decide +kernel
theorem dX9_awardFor_17 : decode cX9_awardFor 17 = .ok (.iaload, 1) := by decide +kernel
theorem dX9_awardFor_18 : decode cX9_awardFor 18 = .ok (.iload_n 1, 1) := by decide +kernel
theorem dX9_awardFor_19 : decode cX9_awardFor 19 = .ok (.if_icmp .ne 16, 3) := by decide +kernel
theorem dX9_awardFor_22 : decode cX9_awardFor 22 = .ok (.aload_n 0, 1) := by decide +kernel
theorem dX9_awardFor_23 : decode cX9_awardFor 23 = .ok (.getfield 56, 3) := by decide +kernel
theorem dX9_awardFor_26 : decode cX9_awardFor 26 = .ok (.iload_n 3, 1) := by decide +kernel
theorem dX9_awardFor_27 : decode cX9_awardFor 27 = .ok (.baload, 1) := by decide +kernel
theorem dX9_awardFor_28 : decode cX9_awardFor 28 = .ok (.ifCond .ne 7, 3) := by decide +kernel
theorem dX9_awardFor_31 : decode cX9_awardFor 31 = .ok (.iload_n 3, 1) := by decide +kernel
theorem dX9_awardFor_32 : decode cX9_awardFor 32 = .ok (.goto 4, 3) := by decide +kernel
theorem dX9_awardFor_35 : decode cX9_awardFor 35 = .ok (.iload_n 2, 1) := by decide +kernel
theorem dX9_awardFor_36 : decode cX9_awardFor 36 = .ok (.istore_n 2, 1) := by decide +kernel
theorem dX9_awardFor_37 : decode cX9_awardFor 37 = .ok (.iinc 3 1, 3) := by decide +kernel
theorem dX9_awardFor_40 : decode cX9_awardFor 40 = .ok (.goto (-36), 3) := by decide +kernel
theorem dX9_awardFor_43 : decode cX9_awardFor 43 = .ok (.iload_n 2, 1) := by decide +kernel
theorem dX9_awardFor_44 : decode cX9_awardFor 44 = .ok (.ireturn, 1) := by decide +kernel
set_option maxRecDepth 20000 in
theorem ggX9_gives_X9_rankedAt : GoodIn wsX9_gives wsX9_rankedAt := goodIn_r _ [10, 11, 12, 13, 9, 14, 15, 16, 17, 18, 19, 20, 21, 5, 22, 23, 24, 25, 26, 27, 28, 29, 30, 31, 32, 33, 34, 35, 36, 37, 38, 39, 40, 41, 42, 43, 44, 45, 46, 47, 48, 49, 50, 51, 52, 53, 54, 55, 56, 57, 58, 59, 60, 61, 62, 63, 64, 65, 66, 67, 68] (by decide +kernel) (by decide +kernel)
set_option maxRecDepth 20000 in
theorem gX9_gives_X9_rankedAt : GoodIn wsX9_gives (wsV RX9 144 RX9 yX9_rankedAt wsX9_rankedAt) := goodIn_app (goodIn_of _ (by decide +kernel)) ggX9_gives_X9_rankedAt
theorem dX9_gives_0 : decode cX9_gives 0 = .ok (.aload_n 0, 1) := by decide +kernel
theorem dX9_gives_1 : decode cX9_gives 1 = .ok (.iload_n 1, 1) := by decide +kernel
theorem dX9_gives_2 : decode cX9_gives 2 = .ok (.iconst 0, 1) := by decide +kernel
theorem dX9_gives_3 : decode cX9_gives 3 = .ok (.invokevirtual 144, 3) := by decide +kernel
theorem dX9_gives_6 : decode cX9_gives 6 = .ok (.istore_n 2, 1) := by decide +kernel
theorem dX9_gives_7 : decode cX9_gives 7 = .ok (.iload_n 2, 1) := by decide +kernel
theorem dX9_gives_8 : decode cX9_gives 8 = .ok (.iconst (-1), 1) := by decide +kernel
theorem dX9_gives_9 : decode cX9_gives 9 = .ok (.if_icmp .ne 5, 3) := by decide +kernel
theorem dX9_gives_12 : decode cX9_gives 12 = .ok (.iconst (-1), 1) := by decide +kernel
theorem dX9_gives_13 : decode cX9_gives 13 = .ok (.ireturn, 1) := by decide +kernel
theorem dX9_gives_14 : decode cX9_gives 14 = .ok (.aload_n 0, 1) := by decide +kernel
theorem dX9_gives_15 : decode cX9_gives 15 = .ok (.getfield 47, 3) := by decide +kernel
theorem dX9_gives_18 : decode cX9_gives 18 = .ok (.aload_n 0, 1) := by decide +kernel
theorem dX9_gives_19 : decode cX9_gives 19 = .ok (.getfield 157, 3) := by decide +kernel
theorem dX9_gives_22 : decode cX9_gives 22 = .ok (.iload_n 1, 1) := by decide +kernel
theorem dX9_gives_23 : decode cX9_gives 23 = .ok (.iastore, 1) := by decide +kernel
theorem dX9_gives_24 : decode cX9_gives 24 = .ok (.aload_n 0, 1) := by decide +kernel
theorem dX9_gives_25 : decode cX9_gives 25 = .ok (.getfield 50, 3) := by decide +kernel
theorem dX9_gives_28 : decode cX9_gives 28 = .ok (.aload_n 0, 1) := by decide +kernel
theorem dX9_gives_29 : decode cX9_gives 29 = .ok (.getfield 157, 3) := by decide +kernel
theorem dX9_gives_32 : decode cX9_gives 32 = .ok (.iload_n 2, 1) := by decide +kernel
theorem dX9_gives_33 : decode cX9_gives 33 = .ok (.iastore, 1) := by decide +kernel
theorem dX9_gives_34 : decode cX9_gives 34 = .ok (.aload_n 0, 1) := by decide +kernel
theorem dX9_gives_35 : decode cX9_gives 35 = .ok (.getfield 53, 3) := by decide +kernel
theorem dX9_gives_38 : decode cX9_gives 38 = .ok (.aload_n 0, 1) := by decide +kernel
theorem dX9_gives_39 : decode cX9_gives 39 = .ok (.getfield 157, 3) := by decide +kernel
theorem dX9_gives_42 : decode cX9_gives 42 = .ok (.aload_n 0, 1) := by decide +kernel
theorem dX9_gives_43 : decode cX9_gives 43 = .ok (.getfield 108, 3) := by decide +kernel
theorem dX9_gives_46 : decode cX9_gives 46 = .ok (.iastore, 1) := by decide +kernel
theorem dX9_gives_47 : decode cX9_gives 47 = .ok (.aload_n 0, 1) := by decide +kernel
theorem dX9_gives_48 : decode cX9_gives 48 = .ok (.dup, 1) := by decide +kernel
theorem dX9_gives_49 : decode cX9_gives 49 = .ok (.getfield 157, 3) := by decide +kernel
theorem dX9_gives_52 : decode cX9_gives 52 = .ok (.iconst 1, 1) := by decide +kernel
theorem dX9_gives_53 : decode cX9_gives 53 = .ok (.iadd, 1) := by decide +kernel
theorem dX9_gives_54 : decode cX9_gives 54 = .ok (.putfield 157, 3) := by decide +kernel
theorem dX9_gives_57 : decode cX9_gives 57 = .ok (.aload_n 0, 1) := by decide +kernel
theorem dX9_gives_58 : decode cX9_gives 58 = .ok (.getfield 157, 3) := by decide +kernel
theorem dX9_gives_61 : decode cX9_gives 61 = .ok (.iconst 1, 1) := by decide +kernel
theorem dX9_gives_62 : decode cX9_gives 62 = .ok (.isub, 1) := by decide +kernel
theorem dX9_gives_63 : decode cX9_gives 63 = .ok (.ireturn, 1) := by decide +kernel
set_option maxRecDepth 20000 in
theorem ggX9_lapses_X9_isFinalNow : GoodIn wsX9_lapses wsX9_isFinalNow := goodIn_r _ [14, 4, 3, 15, 16, 17, 13, 18, 19, 20, 21, 22, 23, 24, 25, 26, 27, 8, 58, 59, 60, 61, 62, 63, 64, 65, 66, 67, 68, 69, 70, 71, 72, 73, 74, 75, 76, 77, 78, 79, 80, 81, 82, 83, 84, 85, 86, 87, 88, 89, 90, 91, 92] (by decide +kernel) (by decide +kernel)
set_option maxRecDepth 20000 in
theorem gX9_lapses_X9_isFinalNow : GoodIn wsX9_lapses (wsV RX9 160 RX9 yX9_isFinalNow wsX9_isFinalNow) := goodIn_app (goodIn_of _ (by decide +kernel)) ggX9_lapses_X9_isFinalNow
set_option maxRecDepth 20000 in
theorem ggX9_lapses_X9_standsUntil : GoodIn wsX9_lapses wsX9_standsUntil := goodIn_r _ [25, 26, 27, 8, 58, 59, 60, 61, 62, 63, 64, 65, 66, 67, 68, 69, 70, 71, 72, 73, 74, 75, 76, 77, 78, 79, 80, 81, 82, 83, 84, 85, 86, 87, 88, 89, 90, 91, 92] (by decide +kernel) (by decide +kernel)
set_option maxRecDepth 20000 in
theorem gX9_lapses_X9_standsUntil : GoodIn wsX9_lapses (wsV RX9 154 RX9 yX9_standsUntil wsX9_standsUntil) := goodIn_app (goodIn_of _ (by decide +kernel)) ggX9_lapses_X9_standsUntil
set_option maxRecDepth 20000 in
theorem ggX9_lapses_X9_gives : GoodIn wsX9_lapses wsX9_gives := goodIn_r _ [31, 8, 1, 6, 26, 3, 32, 33, 34, 13, 35, 36, 37, 38, 39, 40, 41, 9, 42, 43, 44, 45, 46, 47, 48, 49, 50, 51, 52, 53, 54, 55, 56, 57, 58, 59, 60, 61, 62, 63, 64, 65, 66, 67, 68, 69, 70, 71, 72, 73, 74, 75, 76, 77, 78, 79, 80, 81, 82, 83, 84, 85, 86, 87, 88, 89, 90, 91, 92] (by decide +kernel) (by decide +kernel)
set_option maxRecDepth 20000 in
theorem gX9_lapses_X9_gives : GoodIn wsX9_lapses (wsV RX9 163 RX9 yX9_gives wsX9_gives) := goodIn_app (goodIn_of _ (by decide +kernel)) ggX9_lapses_X9_gives
theorem dX9_lapses_0 : decode cX9_lapses 0 = .ok (.aload_n 0, 1) := by decide +kernel
theorem dX9_lapses_1 : decode cX9_lapses 1 = .ok (.getfield 157, 3) := by decide +kernel
theorem dX9_lapses_4 : decode cX9_lapses 4 = .ok (.istore_n 1, 1) := by decide +kernel
theorem dX9_lapses_5 : decode cX9_lapses 5 = .ok (.iconst 0, 1) := by decide +kernel
theorem dX9_lapses_6 : decode cX9_lapses 6 = .ok (.istore_n 2, 1) := by decide +kernel
theorem dX9_lapses_7 : decode cX9_lapses 7 = .ok (.iconst 0, 1) := by decide +kernel
theorem dX9_lapses_8 : decode cX9_lapses 8 = .ok (.istore_n 3, 1) := by decide +kernel
theorem dX9_lapses_9 : decode cX9_lapses 9 = .ok (.iload_n 3, 1) := by decide +kernel
theorem dX9_lapses_10 : decode cX9_lapses 10 = .ok (.iload_n 1, 1) := by decide +kernel
theorem dX9_lapses_11 : decode cX9_lapses 11 = .ok (.if_icmp .ge 118, 3) := by decide +kernel
theorem dX9_lapses_14 : decode cX9_lapses 14 = .ok (.aload_n 0, 1) := by decide +kernel
theorem dX9_lapses_15 : decode cX9_lapses 15 = .ok (.getfield 157, 3) := by decide +kernel
theorem dX9_lapses_18 : decode cX9_lapses 18 = .ok (.bipush 60, 2) := by decide +kernel
theorem dX9_lapses_20 : decode cX9_lapses 20 = .ok (.if_icmp .ge 103, 3) := by decide +kernel
theorem dX9_lapses_23 : decode cX9_lapses 23 = .ok (.aload_n 0, 1) := by decide +kernel
theorem dX9_lapses_24 : decode cX9_lapses 24 = .ok (.getfield 59, 3) := by decide +kernel
theorem dX9_lapses_27 : decode cX9_lapses 27 = .ok (.iload_n 3, 1) := by decide +kernel
theorem dX9_lapses_28 : decode cX9_lapses 28 = .ok (.iaload, 1) := by decide +kernel
theorem dX9_lapses_29 : decode cX9_lapses 29 = .ok (.ifCond .ne 94, 3) := by decide +kernel
theorem dX9_lapses_32 : decode cX9_lapses 32 = .ok (.aload_n 0, 1) := by decide +kernel
theorem dX9_lapses_33 : decode cX9_lapses 33 = .ok (.iload_n 3, 1) := by decide +kernel
theorem dX9_lapses_34 : decode cX9_lapses 34 = .ok (.invokevirtual 160, 3) := by decide +kernel
theorem dX9_lapses_37 : decode cX9_lapses 37 = .ok (.ifCond .eq 86, 3) := by decide +kernel
theorem dX9_lapses_40 : decode cX9_lapses 40 = .ok (.aload_n 0, 1) := by decide +kernel
theorem dX9_lapses_41 : decode cX9_lapses 41 = .ok (.getfield 108, 3) := by decide +kernel
theorem dX9_lapses_44 : decode cX9_lapses 44 = .ok (.aload_n 0, 1) := by decide +kernel
theorem dX9_lapses_45 : decode cX9_lapses 45 = .ok (.iload_n 3, 1) := by decide +kernel
theorem dX9_lapses_46 : decode cX9_lapses 46 = .ok (.invokevirtual 154, 3) := by decide +kernel
theorem dX9_lapses_49 : decode cX9_lapses 49 = .ok (.bipush 30, 2) := by decide +kernel
theorem dX9_lapses_51 : decode cX9_lapses 51 = .ok (.iadd, 1) := by decide +kernel
theorem dX9_lapses_52 : decode cX9_lapses 52 = .ok (.if_icmp .lt 71, 3) := by decide +kernel
theorem dX9_lapses_55 : decode cX9_lapses 55 = .ok (.aload_n 0, 1) := by decide +kernel
theorem dX9_lapses_56 : decode cX9_lapses 56 = .ok (.getfield 56, 3) := by decide +kernel
theorem dX9_lapses_59 : decode cX9_lapses 59 = .ok (.iload_n 3, 1) := by decide +kernel
theorem dX9_lapses_60 : decode cX9_lapses 60 = .ok (.iconst 1, 1) := by decide +kernel
theorem dX9_lapses_61 : decode cX9_lapses 61 = .ok (.bastore, 1) := by decide +kernel
theorem dX9_lapses_62 : decode cX9_lapses 62 = .ok (.aload_n 0, 1) := by decide +kernel
theorem dX9_lapses_63 : decode cX9_lapses 63 = .ok (.getfield 86, 3) := by decide +kernel
theorem dX9_lapses_66 : decode cX9_lapses 66 = .ok (.aload_n 0, 1) := by decide +kernel
theorem dX9_lapses_67 : decode cX9_lapses 67 = .ok (.getfield 50, 3) := by decide +kernel
theorem dX9_lapses_70 : decode cX9_lapses 70 = .ok (.iload_n 3, 1) := by decide +kernel
theorem dX9_lapses_71 : decode cX9_lapses 71 = .ok (.iaload, 1) := by decide +kernel
theorem dX9_lapses_72 : decode cX9_lapses 72 = .ok (.dup2, 1) := by decide +kernel
theorem dX9_lapses_73 : decode cX9_lapses 73 = .ok (.iaload, 1) := by decide +kernel
theorem dX9_lapses_74 : decode cX9_lapses 74 = .ok (.aload_n 0, 1) := by decide +kernel
theorem dX9_lapses_75 : decode cX9_lapses 75 = .ok (.getfield 28, 3) := by decide +kernel
theorem dX9_lapses_78 : decode cX9_lapses 78 = .ok (.aload_n 0, 1) := by decide +kernel
theorem dX9_lapses_79 : decode cX9_lapses 79 = .ok (.getfield 47, 3) := by decide +kernel
theorem dX9_lapses_82 : decode cX9_lapses 82 = .ok (.iload_n 3, 1) := by decide +kernel
theorem dX9_lapses_83 : decode cX9_lapses 83 = .ok (.iaload, 1) := by decide +kernel
theorem dX9_lapses_84 : decode cX9_lapses 84 = .ok (.iaload, 1) := by decide +kernel
theorem dX9_lapses_85 : decode cX9_lapses 85 = .ok (.iadd, 1) := by decide +kernel
theorem dX9_lapses_86 : decode cX9_lapses 86 = .ok (.iastore, 1) := by decide +kernel
theorem dX9_lapses_87 : decode cX9_lapses 87 = .ok (.aload_n 0, 1) := by decide +kernel
theorem dX9_lapses_88 : decode cX9_lapses 88 = .ok (.getfield 44, 3) := by decide +kernel
theorem dX9_lapses_91 : decode cX9_lapses 91 = .ok (.bipush 8, 2) := by decide +kernel
theorem dX9_lapses_93 : decode cX9_lapses 93 = .ok (.aload_n 0, 1) := by decide +kernel
theorem dX9_lapses_94 : decode cX9_lapses 94 = .ok (.getfield 47, 3) := by decide +kernel
theorem dX9_lapses_97 : decode cX9_lapses 97 = .ok (.iload_n 3, 1) := by decide +kernel
theorem dX9_lapses_98 : decode cX9_lapses 98 = .ok (.iaload, 1) := by decide +kernel
theorem dX9_lapses_99 : decode cX9_lapses 99 = .ok (.imul, 1) := by decide +kernel
theorem dX9_lapses_100 : decode cX9_lapses 100 = .ok (.aload_n 0, 1) := by decide +kernel
theorem dX9_lapses_101 : decode cX9_lapses 101 = .ok (.getfield 50, 3) := by decide +kernel
theorem dX9_lapses_104 : decode cX9_lapses 104 = .ok (.iload_n 3, 1) := by decide +kernel
theorem dX9_lapses_105 : decode cX9_lapses 105 = .ok (.iaload, 1) := by decide +kernel
theorem dX9_lapses_106 : decode cX9_lapses 106 = .ok (.iadd, 1) := by decide +kernel
theorem dX9_lapses_107 : decode cX9_lapses 107 = .ok (.iconst 1, 1) := by decide +kernel
theorem dX9_lapses_108 : decode cX9_lapses 108 = .ok (.bastore, 1) := by decide +kernel
theorem dX9_lapses_109 : decode cX9_lapses 109 = .ok (.aload_n 0, 1) := by decide +kernel
theorem dX9_lapses_110 : decode cX9_lapses 110 = .ok (.aload_n 0, 1) := by decide +kernel
theorem dX9_lapses_111 : decode cX9_lapses 111 = .ok (.getfield 47, 3) := by decide +kernel
theorem dX9_lapses_114 : decode cX9_lapses 114 = .ok (.iload_n 3, 1) := by decide +kernel
theorem dX9_lapses_115 : decode cX9_lapses 115 = .ok (.iaload, 1) := by decide +kernel
theorem dX9_lapses_116 : decode cX9_lapses 116 = .ok (.invokevirtual 163, 3) := by decide +kernel
theorem dX9_lapses_119 : decode cX9_lapses 119 = .ok (.pop, 1) := by decide +kernel
theorem dX9_lapses_120 : decode cX9_lapses 120 = .ok (.iinc 2 1, 3) := by decide +kernel
theorem dX9_lapses_123 : decode cX9_lapses 123 = .ok (.iinc 3 1, 3) := by decide +kernel
theorem dX9_lapses_126 : decode cX9_lapses 126 = .ok (.goto (-117), 3) := by decide +kernel
theorem dX9_lapses_129 : decode cX9_lapses 129 = .ok (.iload_n 2, 1) := by decide +kernel
theorem dX9_lapses_130 : decode cX9_lapses 130 = .ok (.ireturn, 1) := by decide +kernel
set_option maxRecDepth 20000 in
theorem ggX9_pass_X9_in : GoodIn wsX9_pass wsX9_in := goodIn_r _ [8] (by decide +kernel) (by decide +kernel)
set_option maxRecDepth 20000 in
theorem gX9_pass_X9_in : GoodIn wsX9_pass (va_wsS RX9 97 yX9_in wsX9_in) := goodIn_app (goodIn_of _ (by decide +kernel)) ggX9_pass_X9_in
set_option maxRecDepth 20000 in
theorem ggX9_pass_X9_opens : GoodIn wsX9_pass wsX9_opens := goodIn_r _ [12, 13, 14, 15, 16, 17, 7, 18, 19, 20, 4, 78, 79, 80, 81, 82, 83, 84, 85, 86, 87, 88, 89, 90, 91, 92, 93, 94, 95, 96, 97, 98, 99, 100, 101, 102, 103, 104, 105, 106, 107, 108, 109, 110, 111, 112] (by decide +kernel) (by decide +kernel)
set_option maxRecDepth 20000 in
theorem gX9_pass_X9_opens : GoodIn wsX9_pass (wsV RX9 166 RX9 yX9_opens wsX9_opens) := goodIn_app (goodIn_of _ (by decide +kernel)) ggX9_pass_X9_opens
set_option maxRecDepth 20000 in
theorem ggX9_pass_X9_lapses : GoodIn wsX9_pass wsX9_lapses := goodIn_r _ [24, 25, 26, 1, 27, 28, 29, 30, 31, 32, 33, 34, 35, 7, 36, 37, 38, 39, 40, 41, 42, 43, 44, 45, 46, 47, 48, 49, 50, 51, 52, 53, 54, 55, 56, 57, 58, 59, 60, 61, 62, 14, 63, 64, 65, 66, 4, 67, 68, 69, 70, 71, 72, 73, 74, 75, 76, 77, 78, 79, 80, 81, 82, 83, 84, 85, 86, 87, 88, 89, 90, 91, 92, 93, 94, 95, 96, 97, 98, 99, 100, 101, 102, 103, 104, 105, 106, 107, 108, 109, 110, 111, 112] (by decide +kernel) (by decide +kernel)
set_option maxRecDepth 20000 in
theorem gX9_pass_X9_lapses : GoodIn wsX9_pass (wsV RX9 170 RX9 yX9_lapses wsX9_lapses) := goodIn_app (goodIn_of _ (by decide +kernel)) ggX9_pass_X9_lapses
theorem dX9_pass_0 : decode cX9_pass 0 = .ok (.aload_n 0, 1) := by decide +kernel
theorem dX9_pass_1 : decode cX9_pass 1 = .ok (.iload_n 1, 1) := by decide +kernel
theorem dX9_pass_2 : decode cX9_pass 2 = .ok (.iconst 1, 1) := by decide +kernel
theorem dX9_pass_3 : decode cX9_pass 3 = .ok (.bipush 100, 2) := by decide +kernel
theorem dX9_pass_5 : decode cX9_pass 5 = .ok (.invokestatic 97, 3) := by decide +kernel
theorem dX9_pass_8 : decode cX9_pass 8 = .ok (.ifCond .ne 7, 3) := by decide +kernel
theorem dX9_pass_11 : decode cX9_pass 11 = .ok (.iconst 1, 1) := by decide +kernel
theorem dX9_pass_12 : decode cX9_pass 12 = .ok (.goto 20, 3) := by decide +kernel
theorem dX9_pass_15 : decode cX9_pass 15 = .ok (.aload_n 0, 1) := by decide +kernel
theorem dX9_pass_16 : decode cX9_pass 16 = .ok (.getfield 108, 3) := by decide +kernel
theorem dX9_pass_19 : decode cX9_pass 19 = .ok (.iload_n 1, 1) := by decide +kernel
theorem dX9_pass_20 : decode cX9_pass 20 = .ok (.iadd, 1) := by decide +kernel
theorem dX9_pass_21 : decode cX9_pass 21 = .ok (.sipush 2000, 3) := by decide +kernel
theorem dX9_pass_24 : decode cX9_pass 24 = .ok (.if_icmp .le 7, 3) := by decide +kernel
theorem dX9_pass_27 : decode cX9_pass 27 = .ok (.iconst 2, 1) := by decide +kernel
theorem dX9_pass_28 : decode cX9_pass 28 = .ok (.goto 4, 3) := by decide +kernel
theorem dX9_pass_31 : decode cX9_pass 31 = .ok (.iconst 0, 1) := by decide +kernel
theorem dX9_pass_32 : decode cX9_pass 32 = .ok (.putfield 93, 3) := by decide +kernel
theorem dX9_pass_35 : decode cX9_pass 35 = .ok (.iconst 0, 1) := by decide +kernel
theorem dX9_pass_36 : decode cX9_pass 36 = .ok (.istore_n 2, 1) := by decide +kernel
theorem dX9_pass_37 : decode cX9_pass 37 = .ok (.iconst 0, 1) := by decide +kernel
theorem dX9_pass_38 : decode cX9_pass 38 = .ok (.istore_n 3, 1) := by decide +kernel
theorem dX9_pass_39 : decode cX9_pass 39 = .ok (.iload_n 3, 1) := by decide +kernel
theorem dX9_pass_40 : decode cX9_pass 40 = .ok (.iload_n 1, 1) := by decide +kernel
theorem dX9_pass_41 : decode cX9_pass 41 = .ok (.if_icmp .ge 71, 3) := by decide +kernel
theorem dX9_pass_44 : decode cX9_pass 44 = .ok (.aload_n 0, 1) := by decide +kernel
theorem dX9_pass_45 : decode cX9_pass 45 = .ok (.getfield 93, 3) := by decide +kernel
theorem dX9_pass_48 : decode cX9_pass 48 = .ok (.ifCond .ne 64, 3) := by decide +kernel
theorem dX9_pass_51 : decode cX9_pass 51 = .ok (.aload_n 0, 1) := by decide +kernel
theorem dX9_pass_52 : decode cX9_pass 52 = .ok (.dup, 1) := by decide +kernel
theorem dX9_pass_53 : decode cX9_pass 53 = .ok (.getfield 108, 3) := by decide +kernel
theorem dX9_pass_56 : decode cX9_pass 56 = .ok (.iconst 1, 1) := by decide +kernel
theorem dX9_pass_57 : decode cX9_pass 57 = .ok (.iadd, 1) := by decide +kernel
theorem dX9_pass_58 : decode cX9_pass 58 = .ok (.putfield 108, 3) := by decide +kernel
theorem dX9_pass_61 : decode cX9_pass 61 = .ok (.iconst 0, 1) := by decide +kernel
theorem dX9_pass_62 : decode cX9_pass 62 = .ok (.istore 4, 2) := by decide +kernel
theorem dX9_pass_64 : decode cX9_pass 64 = .ok (.iload 4, 2) := by decide +kernel
theorem dX9_pass_66 : decode cX9_pass 66 = .ok (.aload_n 0, 1) := by decide +kernel
theorem dX9_pass_67 : decode cX9_pass 67 = .ok (.getfield 101, 3) := by decide +kernel
theorem dX9_pass_70 : decode cX9_pass 70 = .ok (.if_icmp .ge 29, 3) := by decide +kernel
theorem dX9_pass_73 : decode cX9_pass 73 = .ok (.aload_n 0, 1) := by decide +kernel
theorem dX9_pass_74 : decode cX9_pass 74 = .ok (.getfield 13, 3) := by decide +kernel
theorem dX9_pass_77 : decode cX9_pass 77 = .ok (.iload 4, 2) := by decide +kernel
theorem dX9_pass_79 : decode cX9_pass 79 = .ok (.iaload, 1) := by decide +kernel
theorem dX9_pass_80 : decode cX9_pass 80 = .ok (.aload_n 0, 1) := by decide +kernel
theorem dX9_pass_81 : decode cX9_pass 81 = .ok (.getfield 108, 3) := by decide +kernel
theorem dX9_pass_84 : decode cX9_pass 84 = .ok (.if_icmp .ne 9, 3) := by decide +kernel
theorem dX9_pass_87 : decode cX9_pass 87 = .ok (.aload_n 0, 1) := by decide +kernel
theorem dX9_pass_88 : decode cX9_pass 88 = .ok (.iload 4, 2) := by decide +kernel
theorem dX9_pass_90 : decode cX9_pass 90 = .ok (.invokevirtual 166, 3) := by decide +kernel
theorem dX9_pass_93 : decode cX9_pass 93 = .ok (.iinc 4 1, 3) := by decide +kernel
theorem dX9_pass_96 : decode cX9_pass 96 = .ok (.goto (-32), 3) := by decide +kernel
theorem dX9_pass_99 : decode cX9_pass 99 = .ok (.iload_n 2, 1) := by decide +kernel
theorem dX9_pass_100 : decode cX9_pass 100 = .ok (.aload_n 0, 1) := by decide +kernel
theorem dX9_pass_101 : decode cX9_pass 101 = .ok (.invokevirtual 170, 3) := by decide +kernel
theorem dX9_pass_104 : decode cX9_pass 104 = .ok (.iadd, 1) := by decide +kernel
theorem dX9_pass_105 : decode cX9_pass 105 = .ok (.istore_n 2, 1) := by decide +kernel
theorem dX9_pass_106 : decode cX9_pass 106 = .ok (.iinc 3 1, 3) := by decide +kernel
theorem dX9_pass_109 : decode cX9_pass 109 = .ok (.goto (-70), 3) := by decide +kernel
theorem dX9_pass_112 : decode cX9_pass 112 = .ok (.iload_n 2, 1) := by decide +kernel
theorem dX9_pass_113 : decode cX9_pass 113 = .ok (.ireturn, 1) := by decide +kernel
set_option maxRecDepth 20000 in
theorem ggX9_award_X9_isLot : GoodIn wsX9_award wsX9_isLot := goodIn_r _ [7, 8, 9, 10, 11, 6, 12, 13, 14, 15, 16, 57, 58, 59, 60, 61, 62, 63, 64, 65, 66, 67, 68, 69, 70, 71, 72, 73, 74, 75, 76, 77, 78, 79, 80, 81, 82, 83, 84, 85, 86, 87, 88, 89, 90, 91] (by decide +kernel) (by decide +kernel)
set_option maxRecDepth 20000 in
theorem gX9_award_X9_isLot : GoodIn wsX9_award (wsV RX9 118 RX9 yX9_isLot wsX9_isLot) := goodIn_app (goodIn_of _ (by decide +kernel)) ggX9_award_X9_isLot
set_option maxRecDepth 20000 in
theorem ggX9_award_X9_isOpened : GoodIn wsX9_award wsX9_isOpened := goodIn_r _ [20, 21, 22, 57, 58, 59, 60, 61, 62, 63, 64, 65, 66, 67, 68, 69, 70, 71, 72, 73, 74, 75, 76, 77, 78, 79, 80, 81, 82, 83, 84, 85, 86, 87, 88, 89, 90, 91] (by decide +kernel) (by decide +kernel)
set_option maxRecDepth 20000 in
theorem gX9_award_X9_isOpened : GoodIn wsX9_award (wsV RX9 111 RX9 yX9_isOpened wsX9_isOpened) := goodIn_app (goodIn_of _ (by decide +kernel)) ggX9_award_X9_isOpened
set_option maxRecDepth 20000 in
theorem ggX9_award_X9_awardFor : GoodIn wsX9_award wsX9_awardFor := goodIn_r _ [26, 2, 27, 28, 57, 58, 59, 60, 61, 62, 63, 64, 65, 66, 67, 68, 69, 70, 71, 72, 73, 74, 75, 76, 77, 78, 79, 80, 81, 82, 83, 84, 85, 86, 87, 88, 89, 90, 91] (by decide +kernel) (by decide +kernel)
set_option maxRecDepth 20000 in
theorem gX9_award_X9_awardFor : GoodIn wsX9_award (wsV RX9 174 RX9 yX9_awardFor wsX9_awardFor) := goodIn_app (goodIn_of _ (by decide +kernel)) ggX9_award_X9_awardFor
set_option maxRecDepth 20000 in
theorem ggX9_award_X9_rankedAt : GoodIn wsX9_award wsX9_rankedAt := goodIn_r _ [32, 33, 34, 35, 6, 36, 37, 38, 39, 17, 18, 19, 20, 21, 22, 40, 41, 42, 43, 44, 45, 46, 47, 48, 49, 50, 57, 58, 59, 60, 61, 62, 63, 64, 65, 66, 67, 68, 69, 70, 71, 72, 73, 74, 75, 76, 77, 78, 79, 80, 81, 82, 83, 84, 85, 86, 87, 88, 89, 90, 91] (by decide +kernel) (by decide +kernel)
set_option maxRecDepth 20000 in
theorem gX9_award_X9_rankedAt : GoodIn wsX9_award (wsV RX9 144 RX9 yX9_rankedAt wsX9_rankedAt) := goodIn_app (goodIn_of _ (by decide +kernel)) ggX9_award_X9_rankedAt
set_option maxRecDepth 20000 in
theorem ggX9_award_X9_gives : GoodIn wsX9_award wsX9_gives := goodIn_r _ [54, 27, 2, 55, 56, 21, 29, 30, 31, 6, 32, 33, 34, 35, 36, 37, 38, 39, 17, 18, 19, 20, 22, 40, 41, 42, 43, 44, 45, 46, 47, 48, 49, 50, 57, 58, 59, 60, 61, 62, 63, 64, 65, 66, 67, 68, 69, 70, 71, 72, 73, 74, 75, 76, 77, 78, 79, 80, 81, 82, 83, 84, 85, 86, 87, 88, 89, 90, 91] (by decide +kernel) (by decide +kernel)
set_option maxRecDepth 20000 in
theorem gX9_award_X9_gives : GoodIn wsX9_award (wsV RX9 163 RX9 yX9_gives wsX9_gives) := goodIn_app (goodIn_of _ (by decide +kernel)) ggX9_award_X9_gives
theorem dX9_award_0 : decode cX9_award 0 = .ok (.aload_n 0, 1) := by decide +kernel
theorem dX9_award_1 : decode cX9_award 1 = .ok (.aload_n 0, 1) := by decide +kernel
theorem dX9_award_2 : decode cX9_award 2 = .ok (.iload_n 1, 1) := by decide +kernel
theorem dX9_award_3 : decode cX9_award 3 = .ok (.iload_n 2, 1) := by decide +kernel
theorem dX9_award_4 : decode cX9_award 4 = .ok (.invokevirtual 118, 3) := by decide +kernel
theorem dX9_award_7 : decode cX9_award 7 = .ok (.ifCond .eq 7, 3) := by decide +kernel
theorem dX9_award_10 : decode cX9_award 10 = .ok (.iconst 0, 1) := by decide +kernel
theorem dX9_award_11 : decode cX9_award 11 = .ok (.goto 4, 3) := by decide +kernel
theorem dX9_award_14 : decode cX9_award 14 = .ok (.iconst 1, 1) := by decide +kernel
theorem dX9_award_15 : decode cX9_award 15 = .ok (.putfield 93, 3) := by decide +kernel
theorem dX9_award_18 : decode cX9_award 18 = .ok (.aload_n 0, 1) := by decide +kernel
theorem dX9_award_19 : decode cX9_award 19 = .ok (.getfield 93, 3) := by decide +kernel
theorem dX9_award_22 : decode cX9_award 22 = .ok (.ifCond .ne 54, 3) := by decide +kernel
theorem dX9_award_25 : decode cX9_award 25 = .ok (.iconst 3, 1) := by decide +kernel
theorem dX9_award_26 : decode cX9_award 26 = .ok (.iload_n 1, 1) := by decide +kernel
theorem dX9_award_27 : decode cX9_award 27 = .ok (.imul, 1) := by decide +kernel
theorem dX9_award_28 : decode cX9_award 28 = .ok (.iload_n 2, 1) := by decide +kernel
theorem dX9_award_29 : decode cX9_award 29 = .ok (.iadd, 1) := by decide +kernel
theorem dX9_award_30 : decode cX9_award 30 = .ok (.istore_n 3, 1) := by decide +kernel
theorem dX9_award_31 : decode cX9_award 31 = .ok (.aload_n 0, 1) := by decide +kernel
theorem dX9_award_32 : decode cX9_award 32 = .ok (.aload_n 0, 1) := by decide +kernel
theorem dX9_award_33 : decode cX9_award 33 = .ok (.iload_n 1, 1) := by decide +kernel
theorem dX9_award_34 : decode cX9_award 34 = .ok (.invokevirtual 111, 3) := by decide +kernel
theorem dX9_award_37 : decode cX9_award 37 = .ok (.ifCond .eq 31, 3) := by decide +kernel
theorem dX9_award_40 : decode cX9_award 40 = .ok (.aload_n 0, 1) := by decide +kernel
theorem dX9_award_41 : decode cX9_award 41 = .ok (.iload_n 3, 1) := by decide +kernel
theorem dX9_award_42 : decode cX9_award 42 = .ok (.invokevirtual 174, 3) := by decide +kernel
theorem dX9_award_45 : decode cX9_award 45 = .ok (.iconst (-1), 1) := by decide +kernel
theorem dX9_award_46 : decode cX9_award 46 = .ok (.if_icmp .ne 22, 3) := by decide +kernel
theorem dX9_award_49 : decode cX9_award 49 = .ok (.aload_n 0, 1) := by decide +kernel
theorem dX9_award_50 : decode cX9_award 50 = .ok (.iload_n 3, 1) := by decide +kernel
theorem dX9_award_51 : decode cX9_award 51 = .ok (.iconst 0, 1) := by decide +kernel
theorem dX9_award_52 : decode cX9_award 52 = .ok (.invokevirtual 144, 3) := by decide +kernel
theorem dX9_award_55 : decode cX9_award 55 = .ok (.iconst (-1), 1) := by decide +kernel
theorem dX9_award_56 : decode cX9_award 56 = .ok (.if_icmp .eq 12, 3) := by decide +kernel
theorem dX9_award_59 : decode cX9_award 59 = .ok (.aload_n 0, 1) := by decide +kernel
theorem dX9_award_60 : decode cX9_award 60 = .ok (.getfield 157, 3) := by decide +kernel
theorem dX9_award_63 : decode cX9_award 63 = .ok (.bipush 60, 2) := by decide +kernel
theorem dX9_award_65 : decode cX9_award 65 = .ok (.if_icmp .ne 7, 3) := by decide +kernel
theorem dX9_award_68 : decode cX9_award 68 = .ok (.iconst 2, 1) := by decide +kernel
theorem dX9_award_69 : decode cX9_award 69 = .ok (.goto 4, 3) := by decide +kernel
theorem dX9_award_72 : decode cX9_award 72 = .ok (.iconst 0, 1) := by decide +kernel
theorem dX9_award_73 : decode cX9_award 73 = .ok (.putfield 93, 3) := by decide +kernel
theorem dX9_award_76 : decode cX9_award 76 = .ok (.aload_n 0, 1) := by decide +kernel
theorem dX9_award_77 : decode cX9_award 77 = .ok (.getfield 93, 3) := by decide +kernel
theorem dX9_award_80 : decode cX9_award 80 = .ok (.ifCond .le 7, 3) := by decide +kernel
theorem dX9_award_83 : decode cX9_award 83 = .ok (.iconst 0, 1) := by decide +kernel
theorem dX9_award_84 : decode cX9_award 84 = .ok (.goto 12, 3) := by decide +kernel
theorem dX9_award_87 : decode cX9_award 87 = .ok (.aload_n 0, 1) := by decide +kernel
theorem dX9_award_88 : decode cX9_award 88 = .ok (.iconst 3, 1) := by decide +kernel
theorem dX9_award_89 : decode cX9_award 89 = .ok (.iload_n 1, 1) := by decide +kernel
theorem dX9_award_90 : decode cX9_award 90 = .ok (.imul, 1) := by decide +kernel
theorem dX9_award_91 : decode cX9_award 91 = .ok (.iload_n 2, 1) := by decide +kernel
theorem dX9_award_92 : decode cX9_award 92 = .ok (.iadd, 1) := by decide +kernel
theorem dX9_award_93 : decode cX9_award 93 = .ok (.invokevirtual 163, 3) := by decide +kernel
theorem dX9_award_96 : decode cX9_award 96 = .ok (.ireturn, 1) := by decide +kernel
set_option maxRecDepth 20000 in
theorem ggX9_awardOf_X9_isLot : GoodIn wsX9_awardOf wsX9_isLot := goodIn_r _ [6, 7, 8, 9, 10, 5, 11, 12, 13, 14, 15, 23, 24, 25, 26, 27, 28, 29, 30, 31, 32, 33, 34, 35, 36, 37, 38, 39, 40, 41, 42, 43, 44, 45, 46, 47, 48, 49, 50, 51, 52, 53, 54, 55, 56, 57] (by decide +kernel) (by decide +kernel)
set_option maxRecDepth 20000 in
theorem gX9_awardOf_X9_isLot : GoodIn wsX9_awardOf (wsV RX9 118 RX9 yX9_isLot wsX9_isLot) := goodIn_app (goodIn_of _ (by decide +kernel)) ggX9_awardOf_X9_isLot
set_option maxRecDepth 20000 in
theorem ggX9_awardOf_X9_awardFor : GoodIn wsX9_awardOf wsX9_awardFor := goodIn_r _ [19, 20, 21, 22, 23, 24, 25, 26, 27, 28, 29, 30, 31, 32, 33, 34, 35, 36, 37, 38, 39, 40, 41, 42, 43, 44, 45, 46, 47, 48, 49, 50, 51, 52, 53, 54, 55, 56, 57] (by decide +kernel) (by decide +kernel)
set_option maxRecDepth 20000 in
theorem gX9_awardOf_X9_awardFor : GoodIn wsX9_awardOf (wsV RX9 174 RX9 yX9_awardFor wsX9_awardFor) := goodIn_app (goodIn_of _ (by decide +kernel)) ggX9_awardOf_X9_awardFor
theorem dX9_awardOf_0 : decode cX9_awardOf 0 = .ok (.aload_n 0, 1) := by decide +kernel
theorem dX9_awardOf_1 : decode cX9_awardOf 1 = .ok (.aload_n 0, 1) := by decide +kernel
theorem dX9_awardOf_2 : decode cX9_awardOf 2 = .ok (.iload_n 1, 1) := by decide +kernel
theorem dX9_awardOf_3 : decode cX9_awardOf 3 = .ok (.iload_n 2, 1) := by decide +kernel
theorem dX9_awardOf_4 : decode cX9_awardOf 4 = .ok (.invokevirtual 118, 3) := by decide +kernel
theorem dX9_awardOf_7 : decode cX9_awardOf 7 = .ok (.ifCond .eq 7, 3) := by decide +kernel
theorem dX9_awardOf_10 : decode cX9_awardOf 10 = .ok (.iconst 0, 1) := by decide +kernel
theorem dX9_awardOf_11 : decode cX9_awardOf 11 = .ok (.goto 4, 3) := by decide +kernel
theorem dX9_awardOf_14 : decode cX9_awardOf 14 = .ok (.iconst 1, 1) := by decide +kernel
theorem dX9_awardOf_15 : decode cX9_awardOf 15 = .ok (.putfield 93, 3) := by decide +kernel
theorem dX9_awardOf_18 : decode cX9_awardOf 18 = .ok (.aload_n 0, 1) := by decide +kernel
theorem dX9_awardOf_19 : decode cX9_awardOf 19 = .ok (.getfield 93, 3) := by decide +kernel
theorem dX9_awardOf_22 : decode cX9_awardOf 22 = .ok (.ifCond .le 7, 3) := by decide +kernel
theorem dX9_awardOf_25 : decode cX9_awardOf 25 = .ok (.iconst 0, 1) := by decide +kernel
theorem dX9_awardOf_26 : decode cX9_awardOf 26 = .ok (.goto 12, 3) := by decide +kernel
theorem dX9_awardOf_29 : decode cX9_awardOf 29 = .ok (.aload_n 0, 1) := by decide +kernel
theorem dX9_awardOf_30 : decode cX9_awardOf 30 = .ok (.iconst 3, 1) := by decide +kernel
theorem dX9_awardOf_31 : decode cX9_awardOf 31 = .ok (.iload_n 1, 1) := by decide +kernel
theorem dX9_awardOf_32 : decode cX9_awardOf 32 = .ok (.imul, 1) := by decide +kernel
theorem dX9_awardOf_33 : decode cX9_awardOf 33 = .ok (.iload_n 2, 1) := by decide +kernel
theorem dX9_awardOf_34 : decode cX9_awardOf 34 = .ok (.iadd, 1) := by decide +kernel
theorem dX9_awardOf_35 : decode cX9_awardOf 35 = .ok (.invokevirtual 174, 3) := by decide +kernel
theorem dX9_awardOf_38 : decode cX9_awardOf 38 = .ok (.ireturn, 1) := by decide +kernel
set_option maxRecDepth 20000 in
theorem ggX9_asksAward_X9_in : GoodIn wsX9_asksAward wsX9_in := goodIn_r _ [6] (by decide +kernel) (by decide +kernel)
set_option maxRecDepth 20000 in
theorem gX9_asksAward_X9_in : GoodIn wsX9_asksAward (va_wsS RX9 97 yX9_in wsX9_in) := goodIn_app (goodIn_of _ (by decide +kernel)) ggX9_asksAward_X9_in
theorem dX9_asksAward_0 : decode cX9_asksAward 0 = .ok (.aload_n 0, 1) := by decide +kernel
theorem dX9_asksAward_1 : decode cX9_asksAward 1 = .ok (.iload_n 1, 1) := by decide +kernel
theorem dX9_asksAward_2 : decode cX9_asksAward 2 = .ok (.iconst 0, 1) := by decide +kernel
theorem dX9_asksAward_3 : decode cX9_asksAward 3 = .ok (.aload_n 0, 1) := by decide +kernel
theorem dX9_asksAward_4 : decode cX9_asksAward 4 = .ok (.getfield 157, 3) := by decide +kernel
theorem dX9_asksAward_7 : decode cX9_asksAward 7 = .ok (.iconst 1, 1) := by decide +kernel
theorem dX9_asksAward_8 : decode cX9_asksAward 8 = .ok (.isub, 1) := by decide +kernel
theorem dX9_asksAward_9 : decode cX9_asksAward 9 = .ok (.invokestatic 97, 3) := by decide +kernel
theorem dX9_asksAward_12 : decode cX9_asksAward 12 = .ok (.ifCond .eq 7, 3) := by decide +kernel
theorem dX9_asksAward_15 : decode cX9_asksAward 15 = .ok (.iconst 0, 1) := by decide +kernel
theorem dX9_asksAward_16 : decode cX9_asksAward 16 = .ok (.goto 4, 3) := by decide +kernel
theorem dX9_asksAward_19 : decode cX9_asksAward 19 = .ok (.iconst 1, 1) := by decide +kernel
theorem dX9_asksAward_20 : decode cX9_asksAward 20 = .ok (.putfield 93, 3) := by decide +kernel
theorem dX9_asksAward_23 : decode cX9_asksAward 23 = .ok (.aload_n 0, 1) := by decide +kernel
theorem dX9_asksAward_24 : decode cX9_asksAward 24 = .ok (.getfield 93, 3) := by decide +kernel
theorem dX9_asksAward_27 : decode cX9_asksAward 27 = .ok (.ifCond .ne 7, 3) := by decide +kernel
theorem dX9_asksAward_30 : decode cX9_asksAward 30 = .ok (.iconst 1, 1) := by decide +kernel
theorem dX9_asksAward_31 : decode cX9_asksAward 31 = .ok (.goto 4, 3) := by decide +kernel
theorem dX9_asksAward_34 : decode cX9_asksAward 34 = .ok (.iconst 0, 1) := by decide +kernel
theorem dX9_asksAward_35 : decode cX9_asksAward 35 = .ok (.ireturn, 1) := by decide +kernel
set_option maxRecDepth 20000 in
theorem ggX9_winner_X9_asksAward : GoodIn wsX9_winner wsX9_asksAward := goodIn_r _ [6, 7, 8, 9, 10, 5, 11, 12, 13, 14, 15, 16, 17, 18, 19, 20, 21, 22, 23, 24, 25, 26, 27, 28, 29, 30, 31, 32, 33, 34, 35, 36, 37, 38, 39, 40, 41, 42, 43, 44, 45, 46] (by decide +kernel) (by decide +kernel)
set_option maxRecDepth 20000 in
theorem gX9_winner_X9_asksAward : GoodIn wsX9_winner (wsV RX9 177 RX9 yX9_asksAward wsX9_asksAward) := goodIn_app (goodIn_of _ (by decide +kernel)) ggX9_winner_X9_asksAward
theorem dX9_winner_0 : decode cX9_winner 0 = .ok (.aload_n 0, 1) := by decide +kernel
theorem dX9_winner_1 : decode cX9_winner 1 = .ok (.iload_n 1, 1) := by decide +kernel
theorem dX9_winner_2 : decode cX9_winner 2 = .ok (.invokevirtual 177, 3) := by decide +kernel
theorem dX9_winner_5 : decode cX9_winner 5 = .ok (.ifCond .eq 12, 3) := by decide +kernel
theorem dX9_winner_8 : decode cX9_winner 8 = .ok (.aload_n 0, 1) := by decide +kernel
theorem dX9_winner_9 : decode cX9_winner 9 = .ok (.getfield 50, 3) := by decide +kernel
theorem dX9_winner_12 : decode cX9_winner 12 = .ok (.iload_n 1, 1) := by decide +kernel
theorem dX9_winner_13 : decode cX9_winner 13 = .ok (.iaload, 1) := by decide +kernel
theorem dX9_winner_14 : decode cX9_winner 14 = .ok (.goto 4, 3) := by decide +kernel
theorem dX9_winner_17 : decode cX9_winner 17 = .ok (.iconst 0, 1) := by decide +kernel
theorem dX9_winner_18 : decode cX9_winner 18 = .ok (.ireturn, 1) := by decide +kernel
set_option maxRecDepth 20000 in
theorem ggX9_isVoid_X9_asksAward : GoodIn wsX9_isVoid wsX9_asksAward := goodIn_r _ [6, 7, 8, 9, 10, 5, 11, 12, 13, 14, 15, 16, 17, 18, 19, 20, 21, 22, 23, 24, 25, 26, 27, 28, 29, 30, 31, 32, 33, 34, 35, 36, 37, 38, 39, 40, 41, 42, 43, 44, 45, 46] (by decide +kernel) (by decide +kernel)
set_option maxRecDepth 20000 in
theorem gX9_isVoid_X9_asksAward : GoodIn wsX9_isVoid (wsV RX9 177 RX9 yX9_asksAward wsX9_asksAward) := goodIn_app (goodIn_of _ (by decide +kernel)) ggX9_isVoid_X9_asksAward
theorem dX9_isVoid_0 : decode cX9_isVoid 0 = .ok (.aload_n 0, 1) := by decide +kernel
theorem dX9_isVoid_1 : decode cX9_isVoid 1 = .ok (.iload_n 1, 1) := by decide +kernel
theorem dX9_isVoid_2 : decode cX9_isVoid 2 = .ok (.invokevirtual 177, 3) := by decide +kernel
theorem dX9_isVoid_5 : decode cX9_isVoid 5 = .ok (.ifCond .eq 16, 3) := by decide +kernel
theorem dX9_isVoid_8 : decode cX9_isVoid 8 = .ok (.aload_n 0, 1) := by decide +kernel
theorem dX9_isVoid_9 : decode cX9_isVoid 9 = .ok (.getfield 56, 3) := by decide +kernel
theorem dX9_isVoid_12 : decode cX9_isVoid 12 = .ok (.iload_n 1, 1) := by decide +kernel
theorem dX9_isVoid_13 : decode cX9_isVoid 13 = .ok (.baload, 1) := by decide +kernel
theorem dX9_isVoid_14 : decode cX9_isVoid 14 = .ok (.ifCond .eq 7, 3) := by decide +kernel
theorem dX9_isVoid_17 : decode cX9_isVoid 17 = .ok (.iconst 1, 1) := by decide +kernel
theorem dX9_isVoid_18 : decode cX9_isVoid 18 = .ok (.goto 4, 3) := by decide +kernel
theorem dX9_isVoid_21 : decode cX9_isVoid 21 = .ok (.iconst 0, 1) := by decide +kernel
theorem dX9_isVoid_22 : decode cX9_isVoid 22 = .ok (.ireturn, 1) := by decide +kernel
set_option maxRecDepth 20000 in
theorem ggX9_isFinal_X9_asksAward : GoodIn wsX9_isFinal wsX9_asksAward := goodIn_r _ [5, 6, 7, 8, 9, 4, 10, 31, 32, 33, 34, 35, 36, 37, 38, 39, 40, 41, 42, 43, 44, 45, 46, 47, 48, 49, 50, 51, 52, 53, 54, 55, 56, 57, 58, 59, 60, 61, 62, 63, 64, 65] (by decide +kernel) (by decide +kernel)
set_option maxRecDepth 20000 in
theorem gX9_isFinal_X9_asksAward : GoodIn wsX9_isFinal (wsV RX9 177 RX9 yX9_asksAward wsX9_asksAward) := goodIn_app (goodIn_of _ (by decide +kernel)) ggX9_isFinal_X9_asksAward
set_option maxRecDepth 20000 in
theorem ggX9_isFinal_X9_isFinalNow : GoodIn wsX9_isFinal wsX9_isFinalNow := goodIn_r _ [14, 15, 16, 17, 18, 19, 4, 20, 21, 22, 23, 24, 25, 26, 27, 28, 29, 30, 31, 32, 33, 34, 35, 36, 37, 38, 39, 40, 41, 42, 43, 44, 45, 46, 47, 48, 49, 50, 51, 52, 53, 54, 55, 56, 57, 58, 59, 60, 61, 62, 63, 64, 65] (by decide +kernel) (by decide +kernel)
set_option maxRecDepth 20000 in
theorem gX9_isFinal_X9_isFinalNow : GoodIn wsX9_isFinal (wsV RX9 160 RX9 yX9_isFinalNow wsX9_isFinalNow) := goodIn_app (goodIn_of _ (by decide +kernel)) ggX9_isFinal_X9_isFinalNow
theorem dX9_isFinal_0 : decode cX9_isFinal 0 = .ok (.aload_n 0, 1) := by decide +kernel
theorem dX9_isFinal_1 : decode cX9_isFinal 1 = .ok (.iload_n 1, 1) := by decide +kernel
theorem dX9_isFinal_2 : decode cX9_isFinal 2 = .ok (.invokevirtual 177, 3) := by decide +kernel
theorem dX9_isFinal_5 : decode cX9_isFinal 5 = .ok (.ifCond .eq 15, 3) := by decide +kernel
theorem dX9_isFinal_8 : decode cX9_isFinal 8 = .ok (.aload_n 0, 1) := by decide +kernel
theorem dX9_isFinal_9 : decode cX9_isFinal 9 = .ok (.iload_n 1, 1) := by decide +kernel
theorem dX9_isFinal_10 : decode cX9_isFinal 10 = .ok (.invokevirtual 160, 3) := by decide +kernel
theorem dX9_isFinal_13 : decode cX9_isFinal 13 = .ok (.ifCond .eq 7, 3) := by decide +kernel
theorem dX9_isFinal_16 : decode cX9_isFinal 16 = .ok (.iconst 1, 1) := by decide +kernel
theorem dX9_isFinal_17 : decode cX9_isFinal 17 = .ok (.goto 4, 3) := by decide +kernel
theorem dX9_isFinal_20 : decode cX9_isFinal 20 = .ok (.iconst 0, 1) := by decide +kernel
theorem dX9_isFinal_21 : decode cX9_isFinal 21 = .ok (.ireturn, 1) := by decide +kernel
set_option maxRecDepth 20000 in
theorem ggX9_winnerAnew_X9_isLot : GoodIn wsX9_winnerAnew wsX9_isLot := goodIn_r _ [6, 7, 8, 9, 10, 5, 11, 12, 13, 14, 15, 44, 45, 46, 47, 48, 49, 50, 51, 52, 53, 54, 55, 56, 57, 58, 59, 60, 61, 62, 63, 64, 65, 66, 67, 68, 69, 70, 71, 72, 73, 74, 75, 76, 77, 78] (by decide +kernel) (by decide +kernel)
set_option maxRecDepth 20000 in
theorem gX9_winnerAnew_X9_isLot : GoodIn wsX9_winnerAnew (wsV RX9 118 RX9 yX9_isLot wsX9_isLot) := goodIn_app (goodIn_of _ (by decide +kernel)) ggX9_winnerAnew_X9_isLot
set_option maxRecDepth 20000 in
theorem ggX9_winnerAnew_X9_rankedAt : GoodIn wsX9_winnerAnew wsX9_rankedAt := goodIn_r _ [19, 20, 21, 22, 5, 23, 24, 25, 26, 27, 28, 29, 30, 31, 32, 33, 34, 35, 36, 37, 38, 39, 40, 41, 42, 43, 44, 45, 46, 47, 48, 49, 50, 51, 52, 53, 54, 55, 56, 57, 58, 59, 60, 61, 62, 63, 64, 65, 66, 67, 68, 69, 70, 71, 72, 73, 74, 75, 76, 77, 78] (by decide +kernel) (by decide +kernel)
set_option maxRecDepth 20000 in
theorem gX9_winnerAnew_X9_rankedAt : GoodIn wsX9_winnerAnew (wsV RX9 144 RX9 yX9_rankedAt wsX9_rankedAt) := goodIn_app (goodIn_of _ (by decide +kernel)) ggX9_winnerAnew_X9_rankedAt
theorem dX9_winnerAnew_0 : decode cX9_winnerAnew 0 = .ok (.aload_n 0, 1) := by decide +kernel
theorem dX9_winnerAnew_1 : decode cX9_winnerAnew 1 = .ok (.aload_n 0, 1) := by decide +kernel
theorem dX9_winnerAnew_2 : decode cX9_winnerAnew 2 = .ok (.iload_n 1, 1) := by decide +kernel
theorem dX9_winnerAnew_3 : decode cX9_winnerAnew 3 = .ok (.iload_n 2, 1) := by decide +kernel
theorem dX9_winnerAnew_4 : decode cX9_winnerAnew 4 = .ok (.invokevirtual 118, 3) := by decide +kernel
theorem dX9_winnerAnew_7 : decode cX9_winnerAnew 7 = .ok (.ifCond .eq 7, 3) := by decide +kernel
theorem dX9_winnerAnew_10 : decode cX9_winnerAnew 10 = .ok (.iconst 0, 1) := by decide +kernel
theorem dX9_winnerAnew_11 : decode cX9_winnerAnew 11 = .ok (.goto 4, 3) := by decide +kernel
theorem dX9_winnerAnew_14 : decode cX9_winnerAnew 14 = .ok (.iconst 1, 1) := by decide +kernel
theorem dX9_winnerAnew_15 : decode cX9_winnerAnew 15 = .ok (.putfield 93, 3) := by decide +kernel
theorem dX9_winnerAnew_18 : decode cX9_winnerAnew 18 = .ok (.aload_n 0, 1) := by decide +kernel
theorem dX9_winnerAnew_19 : decode cX9_winnerAnew 19 = .ok (.getfield 93, 3) := by decide +kernel
theorem dX9_winnerAnew_22 : decode cX9_winnerAnew 22 = .ok (.ifCond .le 7, 3) := by decide +kernel
theorem dX9_winnerAnew_25 : decode cX9_winnerAnew 25 = .ok (.iconst 0, 1) := by decide +kernel
theorem dX9_winnerAnew_26 : decode cX9_winnerAnew 26 = .ok (.goto 13, 3) := by decide +kernel
theorem dX9_winnerAnew_29 : decode cX9_winnerAnew 29 = .ok (.aload_n 0, 1) := by decide +kernel
theorem dX9_winnerAnew_30 : decode cX9_winnerAnew 30 = .ok (.iconst 3, 1) := by decide +kernel
theorem dX9_winnerAnew_31 : decode cX9_winnerAnew 31 = .ok (.iload_n 1, 1) := by decide +kernel
theorem dX9_winnerAnew_32 : decode cX9_winnerAnew 32 = .ok (.imul, 1) := by decide +kernel
theorem dX9_winnerAnew_33 : decode cX9_winnerAnew 33 = .ok (.iload_n 2, 1) := by decide +kernel
theorem dX9_winnerAnew_34 : decode cX9_winnerAnew 34 = .ok (.iadd, 1) := by decide +kernel
theorem dX9_winnerAnew_35 : decode cX9_winnerAnew 35 = .ok (.iconst 0, 1) := by decide +kernel
theorem dX9_winnerAnew_36 : decode cX9_winnerAnew 36 = .ok (.invokevirtual 144, 3) := by decide +kernel
theorem dX9_winnerAnew_39 : decode cX9_winnerAnew 39 = .ok (.ireturn, 1) := by decide +kernel
theorem dX9_writes_0 : decode cX9_writes 0 = .ok (.aload_n 0, 1) := by decide +kernel
theorem dX9_writes_1 : decode cX9_writes 1 = .ok (.getfield 89, 3) := by decide +kernel
theorem dX9_writes_4 : decode cX9_writes 4 = .ok (.aload_n 0, 1) := by decide +kernel
theorem dX9_writes_5 : decode cX9_writes 5 = .ok (.getfield 180, 3) := by decide +kernel
theorem dX9_writes_8 : decode cX9_writes 8 = .ok (.iload_n 1, 1) := by decide +kernel
theorem dX9_writes_9 : decode cX9_writes 9 = .ok (.i2c, 1) := by decide +kernel
theorem dX9_writes_10 : decode cX9_writes 10 = .ok (.castore, 1) := by decide +kernel
theorem dX9_writes_11 : decode cX9_writes 11 = .ok (.aload_n 0, 1) := by decide +kernel
theorem dX9_writes_12 : decode cX9_writes 12 = .ok (.dup, 1) := by decide +kernel
theorem dX9_writes_13 : decode cX9_writes 13 = .ok (.getfield 180, 3) := by decide +kernel
theorem dX9_writes_16 : decode cX9_writes 16 = .ok (.iconst 1, 1) := by decide +kernel
theorem dX9_writes_17 : decode cX9_writes 17 = .ok (.iadd, 1) := by decide +kernel
theorem dX9_writes_18 : decode cX9_writes 18 = .ok (.putfield 180, 3) := by decide +kernel
theorem dX9_writes_21 : decode cX9_writes 21 = .ok (.return_, 1) := by decide +kernel
set_option maxRecDepth 20000 in
theorem ggX9_writesLine_X9_writes : GoodIn wsX9_writesLine wsX9_writes := goodIn_r _ [10, 11, 1, 30, 31, 32, 33, 34, 35, 36, 37, 38, 39, 40, 41, 42, 43, 44, 45, 46, 47, 48, 49, 50, 51, 52, 53, 54, 55, 56, 57, 58, 59, 60, 61, 62, 63, 64] (by decide +kernel) (by decide +kernel)
set_option maxRecDepth 20000 in
theorem gX9_writesLine_X9_writes : GoodIn wsX9_writesLine (wsV RX9 183 RX9 yX9_writes wsX9_writes) := goodIn_app (goodIn_of _ (by decide +kernel)) ggX9_writesLine_X9_writes
set_option maxRecDepth 20000 in
theorem ggX9_writesLine_X9_isFinalNow : GoodIn wsX9_writesLine wsX9_isFinalNow := goodIn_r _ [15, 4, 16, 17, 18, 19, 9, 20, 21, 22, 23, 24, 25, 26, 27, 28, 29, 2, 30, 31, 32, 33, 34, 35, 36, 37, 38, 39, 40, 41, 42, 43, 44, 45, 46, 47, 48, 49, 50, 51, 52, 53, 54, 55, 56, 57, 58, 59, 60, 61, 62, 63, 64] (by decide +kernel) (by decide +kernel)
set_option maxRecDepth 20000 in
theorem gX9_writesLine_X9_isFinalNow : GoodIn wsX9_writesLine (wsV RX9 160 RX9 yX9_isFinalNow wsX9_isFinalNow) := goodIn_app (goodIn_of _ (by decide +kernel)) ggX9_writesLine_X9_isFinalNow
theorem dX9_writesLine_0 : decode cX9_writesLine 0 = .ok (.aload_n 0, 1) := by decide +kernel
theorem dX9_writesLine_1 : decode cX9_writesLine 1 = .ok (.iconst 0, 1) := by decide +kernel
theorem dX9_writesLine_2 : decode cX9_writesLine 2 = .ok (.putfield 180, 3) := by decide +kernel
theorem dX9_writesLine_5 : decode cX9_writesLine 5 = .ok (.aload_n 0, 1) := by decide +kernel
theorem dX9_writesLine_6 : decode cX9_writesLine 6 = .ok (.bipush 35, 2) := by decide +kernel
theorem dX9_writesLine_8 : decode cX9_writesLine 8 = .ok (.invokevirtual 183, 3) := by decide +kernel
theorem dX9_writesLine_11 : decode cX9_writesLine 11 = .ok (.iload_n 1, 1) := by decide +kernel
theorem dX9_writesLine_12 : decode cX9_writesLine 12 = .ok (.bipush 9, 2) := by decide +kernel
theorem dX9_writesLine_14 : decode cX9_writesLine 14 = .ok (.if_icmp .le 14, 3) := by decide +kernel
theorem dX9_writesLine_17 : decode cX9_writesLine 17 = .ok (.aload_n 0, 1) := by decide +kernel
theorem dX9_writesLine_18 : decode cX9_writesLine 18 = .ok (.bipush 48, 2) := by decide +kernel
theorem dX9_writesLine_20 : decode cX9_writesLine 20 = .ok (.iload_n 1, 1) := by decide +kernel
theorem dX9_writesLine_21 : decode cX9_writesLine 21 = .ok (.bipush 10, 2) := by decide +kernel
theorem dX9_writesLine_23 : decode cX9_writesLine 23 = .ok (.idiv, 1) := by decide +kernel
theorem dX9_writesLine_24 : decode cX9_writesLine 24 = .ok (.iadd, 1) := by decide +kernel
theorem dX9_writesLine_25 : decode cX9_writesLine 25 = .ok (.invokevirtual 183, 3) := by decide +kernel
theorem dX9_writesLine_28 : decode cX9_writesLine 28 = .ok (.aload_n 0, 1) := by decide +kernel
theorem dX9_writesLine_29 : decode cX9_writesLine 29 = .ok (.bipush 48, 2) := by decide +kernel
theorem dX9_writesLine_31 : decode cX9_writesLine 31 = .ok (.iload_n 1, 1) := by decide +kernel
theorem dX9_writesLine_32 : decode cX9_writesLine 32 = .ok (.bipush 10, 2) := by decide +kernel
theorem dX9_writesLine_34 : decode cX9_writesLine 34 = .ok (.irem, 1) := by decide +kernel
theorem dX9_writesLine_35 : decode cX9_writesLine 35 = .ok (.iadd, 1) := by decide +kernel
theorem dX9_writesLine_36 : decode cX9_writesLine 36 = .ok (.invokevirtual 183, 3) := by decide +kernel
theorem dX9_writesLine_39 : decode cX9_writesLine 39 = .ok (.aload_n 0, 1) := by decide +kernel
theorem dX9_writesLine_40 : decode cX9_writesLine 40 = .ok (.bipush 32, 2) := by decide +kernel
theorem dX9_writesLine_42 : decode cX9_writesLine 42 = .ok (.invokevirtual 183, 3) := by decide +kernel
theorem dX9_writesLine_45 : decode cX9_writesLine 45 = .ok (.aload_n 0, 1) := by decide +kernel
theorem dX9_writesLine_46 : decode cX9_writesLine 46 = .ok (.bipush 84, 2) := by decide +kernel
theorem dX9_writesLine_48 : decode cX9_writesLine 48 = .ok (.invokevirtual 183, 3) := by decide +kernel
theorem dX9_writesLine_51 : decode cX9_writesLine 51 = .ok (.aload_n 0, 1) := by decide +kernel
theorem dX9_writesLine_52 : decode cX9_writesLine 52 = .ok (.bipush 48, 2) := by decide +kernel
theorem dX9_writesLine_54 : decode cX9_writesLine 54 = .ok (.aload_n 0, 1) := by decide +kernel
theorem dX9_writesLine_55 : decode cX9_writesLine 55 = .ok (.getfield 47, 3) := by decide +kernel
theorem dX9_writesLine_58 : decode cX9_writesLine 58 = .ok (.iload_n 1, 1) := by decide +kernel
theorem dX9_writesLine_59 : decode cX9_writesLine 59 = .ok (.iaload, 1) := by decide +kernel
theorem dX9_writesLine_60 : decode cX9_writesLine 60 = .ok (.iconst 3, 1) := by decide +kernel
theorem dX9_writesLine_61 : decode cX9_writesLine 61 = .ok (.idiv, 1) := by decide +kernel
theorem dX9_writesLine_62 : decode cX9_writesLine 62 = .ok (.iadd, 1) := by decide +kernel
theorem dX9_writesLine_63 : decode cX9_writesLine 63 = .ok (.invokevirtual 183, 3) := by decide +kernel
theorem dX9_writesLine_66 : decode cX9_writesLine 66 = .ok (.aload_n 0, 1) := by decide +kernel
theorem dX9_writesLine_67 : decode cX9_writesLine 67 = .ok (.bipush 76, 2) := by decide +kernel
theorem dX9_writesLine_69 : decode cX9_writesLine 69 = .ok (.invokevirtual 183, 3) := by decide +kernel
theorem dX9_writesLine_72 : decode cX9_writesLine 72 = .ok (.aload_n 0, 1) := by decide +kernel
theorem dX9_writesLine_73 : decode cX9_writesLine 73 = .ok (.bipush 48, 2) := by decide +kernel
theorem dX9_writesLine_75 : decode cX9_writesLine 75 = .ok (.aload_n 0, 1) := by decide +kernel
theorem dX9_writesLine_76 : decode cX9_writesLine 76 = .ok (.getfield 47, 3) := by decide +kernel
theorem dX9_writesLine_79 : decode cX9_writesLine 79 = .ok (.iload_n 1, 1) := by decide +kernel
theorem dX9_writesLine_80 : decode cX9_writesLine 80 = .ok (.iaload, 1) := by decide +kernel
theorem dX9_writesLine_81 : decode cX9_writesLine 81 = .ok (.iconst 3, 1) := by decide +kernel
theorem dX9_writesLine_82 : decode cX9_writesLine 82 = .ok (.irem, 1) := by decide +kernel
theorem dX9_writesLine_83 : decode cX9_writesLine 83 = .ok (.iadd, 1) := by decide +kernel
theorem dX9_writesLine_84 : decode cX9_writesLine 84 = .ok (.invokevirtual 183, 3) := by decide +kernel
theorem dX9_writesLine_87 : decode cX9_writesLine 87 = .ok (.aload_n 0, 1) := by decide +kernel
theorem dX9_writesLine_88 : decode cX9_writesLine 88 = .ok (.bipush 32, 2) := by decide +kernel
theorem dX9_writesLine_90 : decode cX9_writesLine 90 = .ok (.invokevirtual 183, 3) := by decide +kernel
theorem dX9_writesLine_93 : decode cX9_writesLine 93 = .ok (.aload_n 0, 1) := by decide +kernel
theorem dX9_writesLine_94 : decode cX9_writesLine 94 = .ok (.bipush 66, 2) := by decide +kernel
theorem dX9_writesLine_96 : decode cX9_writesLine 96 = .ok (.invokevirtual 183, 3) := by decide +kernel
theorem dX9_writesLine_99 : decode cX9_writesLine 99 = .ok (.aload_n 0, 1) := by decide +kernel
theorem dX9_writesLine_100 : decode cX9_writesLine 100 = .ok (.bipush 48, 2) := by decide +kernel
theorem dX9_writesLine_102 : decode cX9_writesLine 102 = .ok (.aload_n 0, 1) := by decide +kernel
theorem dX9_writesLine_103 : decode cX9_writesLine 103 = .ok (.getfield 50, 3) := by decide +kernel
theorem dX9_writesLine_106 : decode cX9_writesLine 106 = .ok (.iload_n 1, 1) := by decide +kernel
theorem dX9_writesLine_107 : decode cX9_writesLine 107 = .ok (.iaload, 1) := by decide +kernel
theorem dX9_writesLine_108 : decode cX9_writesLine 108 = .ok (.iadd, 1) := by decide +kernel
theorem dX9_writesLine_109 : decode cX9_writesLine 109 = .ok (.invokevirtual 183, 3) := by decide +kernel
theorem dX9_writesLine_112 : decode cX9_writesLine 112 = .ok (.aload_n 0, 1) := by decide +kernel
theorem dX9_writesLine_113 : decode cX9_writesLine 113 = .ok (.getfield 56, 3) := by decide +kernel
theorem dX9_writesLine_116 : decode cX9_writesLine 116 = .ok (.iload_n 1, 1) := by decide +kernel
theorem dX9_writesLine_117 : decode cX9_writesLine 117 = .ok (.baload, 1) := by decide +kernel
theorem dX9_writesLine_118 : decode cX9_writesLine 118 = .ok (.ifCond .ne 20, 3) := by decide +kernel
theorem dX9_writesLine_121 : decode cX9_writesLine 121 = .ok (.aload_n 0, 1) := by decide +kernel
theorem dX9_writesLine_122 : decode cX9_writesLine 122 = .ok (.getfield 59, 3) := by decide +kernel
theorem dX9_writesLine_125 : decode cX9_writesLine 125 = .ok (.iload_n 1, 1) := by decide +kernel
theorem dX9_writesLine_126 : decode cX9_writesLine 126 = .ok (.iaload, 1) := by decide +kernel
theorem dX9_writesLine_127 : decode cX9_writesLine 127 = .ok (.ifCond .gt 11, 3) := by decide +kernel
theorem dX9_writesLine_130 : decode cX9_writesLine 130 = .ok (.aload_n 0, 1) := by decide +kernel
theorem dX9_writesLine_131 : decode cX9_writesLine 131 = .ok (.iload_n 1, 1) := by decide +kernel
theorem dX9_writesLine_132 : decode cX9_writesLine 132 = .ok (.invokevirtual 160, 3) := by decide +kernel
theorem dX9_writesLine_135 : decode cX9_writesLine 135 = .ok (.ifCond .eq 37, 3) := by decide +kernel
theorem dX9_writesLine_138 : decode cX9_writesLine 138 = .ok (.aload_n 0, 1) := by decide +kernel
theorem dX9_writesLine_139 : decode cX9_writesLine 139 = .ok (.aload_n 0, 1) := by decide +kernel
theorem dX9_writesLine_140 : decode cX9_writesLine 140 = .ok (.getfield 56, 3) := by decide +kernel
theorem dX9_writesLine_143 : decode cX9_writesLine 143 = .ok (.iload_n 1, 1) := by decide +kernel
theorem dX9_writesLine_144 : decode cX9_writesLine 144 = .ok (.baload, 1) := by decide +kernel
theorem dX9_writesLine_145 : decode cX9_writesLine 145 = .ok (.ifCond .eq 8, 3) := by decide +kernel
theorem dX9_writesLine_148 : decode cX9_writesLine 148 = .ok (.bipush 86, 2) := by decide +kernel
theorem dX9_writesLine_150 : decode cX9_writesLine 150 = .ok (.goto 19, 3) := by decide +kernel
theorem dX9_writesLine_153 : decode cX9_writesLine 153 = .ok (.aload_n 0, 1) := by decide +kernel
theorem dX9_writesLine_154 : decode cX9_writesLine 154 = .ok (.getfield 59, 3) := by decide +kernel
theorem dX9_writesLine_157 : decode cX9_writesLine 157 = .ok (.iload_n 1, 1) := by decide +kernel
theorem dX9_writesLine_158 : decode cX9_writesLine 158 = .ok (.iaload, 1) := by decide +kernel
theorem dX9_writesLine_159 : decode cX9_writesLine 159 = .ok (.ifCond .le 8, 3) := by decide +kernel
theorem dX9_writesLine_162 : decode cX9_writesLine 162 = .ok (.bipush 83, 2) := by decide +kernel
theorem dX9_writesLine_164 : decode cX9_writesLine 164 = .ok (.goto 5, 3) := by decide +kernel
theorem dX9_writesLine_167 : decode cX9_writesLine 167 = .ok (.bipush 70, 2) := by decide +kernel
theorem dX9_writesLine_169 : decode cX9_writesLine 169 = .ok (.invokevirtual 183, 3) := by decide +kernel
theorem dX9_writesLine_172 : decode cX9_writesLine 172 = .ok (.return_, 1) := by decide +kernel
set_option maxRecDepth 20000 in
theorem ggX9_line_X9_asksAward : GoodIn wsX9_line wsX9_asksAward := goodIn_r _ [6, 7, 8, 9, 10, 5, 11, 43, 44, 45, 46, 47, 48, 49, 50, 51, 52, 53, 54, 55, 56, 57, 58, 59, 60, 61, 62, 63, 64, 65, 66, 67, 68, 69, 70, 71, 72, 73, 74, 75, 76, 77] (by decide +kernel) (by decide +kernel)
set_option maxRecDepth 20000 in
theorem gX9_line_X9_asksAward : GoodIn wsX9_line (wsV RX9 177 RX9 yX9_asksAward wsX9_asksAward) := goodIn_app (goodIn_of _ (by decide +kernel)) ggX9_line_X9_asksAward
set_option maxRecDepth 20000 in
theorem ggX9_line_X9_writesLine : GoodIn wsX9_line wsX9_writesLine := goodIn_r _ [15, 1, 16, 17, 18, 19, 20, 21, 22, 5, 23, 24, 25, 26, 27, 28, 29, 30, 31, 32, 33, 34, 35, 36, 37, 38, 39, 40, 41, 42, 43, 44, 45, 46, 47, 48, 49, 50, 51, 52, 53, 54, 55, 56, 57, 58, 59, 60, 61, 62, 63, 64, 65, 66, 67, 68, 69, 70, 71, 72, 73, 74, 75, 76, 77] (by decide +kernel) (by decide +kernel)
set_option maxRecDepth 20000 in
theorem gX9_line_X9_writesLine : GoodIn wsX9_line (wsV RX9 186 RX9 yX9_writesLine wsX9_writesLine) := goodIn_app (goodIn_of _ (by decide +kernel)) ggX9_line_X9_writesLine
theorem dX9_line_0 : decode cX9_line 0 = .ok (.aload_n 0, 1) := by decide +kernel
theorem dX9_line_1 : decode cX9_line 1 = .ok (.iload_n 1, 1) := by decide +kernel
theorem dX9_line_2 : decode cX9_line 2 = .ok (.invokevirtual 177, 3) := by decide +kernel
theorem dX9_line_5 : decode cX9_line 5 = .ok (.ifCond .ne 5, 3) := by decide +kernel
theorem dX9_line_8 : decode cX9_line 8 = .ok (.iconst 0, 1) := by decide +kernel
theorem dX9_line_9 : decode cX9_line 9 = .ok (.ireturn, 1) := by decide +kernel
theorem dX9_line_10 : decode cX9_line 10 = .ok (.aload_n 0, 1) := by decide +kernel
theorem dX9_line_11 : decode cX9_line 11 = .ok (.iload_n 1, 1) := by decide +kernel
theorem dX9_line_12 : decode cX9_line 12 = .ok (.invokevirtual 186, 3) := by decide +kernel
theorem dX9_line_15 : decode cX9_line 15 = .ok (.aload_n 0, 1) := by decide +kernel
theorem dX9_line_16 : decode cX9_line 16 = .ok (.getfield 180, 3) := by decide +kernel
theorem dX9_line_19 : decode cX9_line 19 = .ok (.ireturn, 1) := by decide +kernel
set_option maxRecDepth 20000 in
theorem ggX9_lineChar_X9_asksAward : GoodIn wsX9_lineChar wsX9_asksAward := goodIn_r _ [8, 9, 2, 10, 11, 7, 12, 43, 44, 45, 46, 47, 48, 49, 50, 51, 52, 53, 54, 55, 56, 57, 58, 59, 60, 61, 62, 63, 64, 65, 66, 67, 68, 69, 70, 71, 72, 73, 74, 75, 76, 77] (by decide +kernel) (by decide +kernel)
set_option maxRecDepth 20000 in
theorem gX9_lineChar_X9_asksAward : GoodIn wsX9_lineChar (wsV RX9 177 RX9 yX9_asksAward wsX9_asksAward) := goodIn_app (goodIn_of _ (by decide +kernel)) ggX9_lineChar_X9_asksAward
set_option maxRecDepth 20000 in
theorem ggX9_lineChar_X9_writesLine : GoodIn wsX9_lineChar wsX9_writesLine := goodIn_r _ [16, 1, 17, 18, 19, 20, 21, 22, 23, 7, 24, 3, 25, 26, 27, 28, 29, 30, 31, 32, 33, 34, 35, 36, 37, 38, 39, 40, 41, 42, 43, 44, 45, 46, 47, 48, 49, 50, 51, 52, 53, 54, 55, 56, 57, 58, 59, 60, 61, 62, 63, 64, 65, 66, 67, 68, 69, 70, 71, 72, 73, 74, 75, 76, 77] (by decide +kernel) (by decide +kernel)
set_option maxRecDepth 20000 in
theorem gX9_lineChar_X9_writesLine : GoodIn wsX9_lineChar (wsV RX9 186 RX9 yX9_writesLine wsX9_writesLine) := goodIn_app (goodIn_of _ (by decide +kernel)) ggX9_lineChar_X9_writesLine
set_option maxRecDepth 20000 in
theorem ggX9_lineChar_X9_in : GoodIn wsX9_lineChar wsX9_in := goodIn_r _ [12] (by decide +kernel) (by decide +kernel)
set_option maxRecDepth 20000 in
theorem gX9_lineChar_X9_in : GoodIn wsX9_lineChar (va_wsS RX9 97 yX9_in wsX9_in) := goodIn_app (goodIn_of _ (by decide +kernel)) ggX9_lineChar_X9_in
theorem dX9_lineChar_0 : decode cX9_lineChar 0 = .ok (.aload_n 0, 1) := by decide +kernel
theorem dX9_lineChar_1 : decode cX9_lineChar 1 = .ok (.iload_n 1, 1) := by decide +kernel
theorem dX9_lineChar_2 : decode cX9_lineChar 2 = .ok (.invokevirtual 177, 3) := by decide +kernel
theorem dX9_lineChar_5 : decode cX9_lineChar 5 = .ok (.istore_n 3, 1) := by decide +kernel
theorem dX9_lineChar_6 : decode cX9_lineChar 6 = .ok (.iload_n 3, 1) := by decide +kernel
theorem dX9_lineChar_7 : decode cX9_lineChar 7 = .ok (.ifCond .eq 8, 3) := by decide +kernel
theorem dX9_lineChar_10 : decode cX9_lineChar 10 = .ok (.aload_n 0, 1) := by decide +kernel
theorem dX9_lineChar_11 : decode cX9_lineChar 11 = .ok (.iload_n 1, 1) := by decide +kernel
theorem dX9_lineChar_12 : decode cX9_lineChar 12 = .ok (.invokevirtual 186, 3) := by decide +kernel
theorem dX9_lineChar_15 : decode cX9_lineChar 15 = .ok (.aload_n 0, 1) := by decide +kernel
theorem dX9_lineChar_16 : decode cX9_lineChar 16 = .ok (.iload_n 3, 1) := by decide +kernel
theorem dX9_lineChar_17 : decode cX9_lineChar 17 = .ok (.ifCond .eq 21, 3) := by decide +kernel
theorem dX9_lineChar_20 : decode cX9_lineChar 20 = .ok (.iload_n 2, 1) := by decide +kernel
theorem dX9_lineChar_21 : decode cX9_lineChar 21 = .ok (.iconst 0, 1) := by decide +kernel
theorem dX9_lineChar_22 : decode cX9_lineChar 22 = .ok (.aload_n 0, 1) := by decide +kernel
theorem dX9_lineChar_23 : decode cX9_lineChar 23 = .ok (.getfield 180, 3) := by decide +kernel
theorem dX9_lineChar_26 : decode cX9_lineChar 26 = .ok (.iconst 1, 1) := by decide +kernel
theorem dX9_lineChar_27 : decode cX9_lineChar 27 = .ok (.isub, 1) := by decide +kernel
theorem dX9_lineChar_28 : decode cX9_lineChar 28 = .ok (.invokestatic 97, 3) := by decide +kernel
theorem dX9_lineChar_31 : decode cX9_lineChar 31 = .ok (.ifCond .eq 7, 3) := by decide +kernel
theorem dX9_lineChar_34 : decode cX9_lineChar 34 = .ok (.iconst 0, 1) := by decide +kernel
theorem dX9_lineChar_35 : decode cX9_lineChar 35 = .ok (.goto 4, 3) := by decide +kernel
theorem dX9_lineChar_38 : decode cX9_lineChar 38 = .ok (.iconst 1, 1) := by decide +kernel
theorem dX9_lineChar_39 : decode cX9_lineChar 39 = .ok (.putfield 93, 3) := by decide +kernel
theorem dX9_lineChar_42 : decode cX9_lineChar 42 = .ok (.aload_n 0, 1) := by decide +kernel
theorem dX9_lineChar_43 : decode cX9_lineChar 43 = .ok (.getfield 93, 3) := by decide +kernel
theorem dX9_lineChar_46 : decode cX9_lineChar 46 = .ok (.ifCond .le 8, 3) := by decide +kernel
theorem dX9_lineChar_49 : decode cX9_lineChar 49 = .ok (.bipush 32, 2) := by decide +kernel
theorem dX9_lineChar_51 : decode cX9_lineChar 51 = .ok (.goto 9, 3) := by decide +kernel
theorem dX9_lineChar_54 : decode cX9_lineChar 54 = .ok (.aload_n 0, 1) := by decide +kernel
theorem dX9_lineChar_55 : decode cX9_lineChar 55 = .ok (.getfield 89, 3) := by decide +kernel
theorem dX9_lineChar_58 : decode cX9_lineChar 58 = .ok (.iload_n 2, 1) := by decide +kernel
theorem dX9_lineChar_59 : decode cX9_lineChar 59 = .ok (.caload, 1) := by decide +kernel
theorem dX9_lineChar_60 : decode cX9_lineChar 60 = .ok (.ireturn, 1) := by decide +kernel
set_option maxRecDepth 20000 in
theorem ggX9_mayComplain_X9_standsUntil : GoodIn wsX9_mayComplain wsX9_standsUntil := goodIn_r _ [14, 15, 16, 1, 17, 18, 19, 20, 21, 22, 23, 24, 25, 26, 27, 28, 29, 30, 31, 32, 33, 34, 35, 36, 37, 38, 39, 40, 41, 42, 43, 44, 45, 46, 47, 48, 49, 50, 51] (by decide +kernel) (by decide +kernel)
set_option maxRecDepth 20000 in
theorem gX9_mayComplain_X9_standsUntil : GoodIn wsX9_mayComplain (wsV RX9 154 RX9 yX9_standsUntil wsX9_standsUntil) := goodIn_app (goodIn_of _ (by decide +kernel)) ggX9_mayComplain_X9_standsUntil
theorem dX9_mayComplain_0 : decode cX9_mayComplain 0 = .ok (.bipush 8, 2) := by decide +kernel
theorem dX9_mayComplain_2 : decode cX9_mayComplain 2 = .ok (.aload_n 0, 1) := by decide +kernel
theorem dX9_mayComplain_3 : decode cX9_mayComplain 3 = .ok (.getfield 47, 3) := by decide +kernel
theorem dX9_mayComplain_6 : decode cX9_mayComplain 6 = .ok (.iload_n 2, 1) := by decide +kernel
theorem dX9_mayComplain_7 : decode cX9_mayComplain 7 = .ok (.iaload, 1) := by decide +kernel
theorem dX9_mayComplain_8 : decode cX9_mayComplain 8 = .ok (.imul, 1) := by decide +kernel
theorem dX9_mayComplain_9 : decode cX9_mayComplain 9 = .ok (.iload_n 1, 1) := by decide +kernel
theorem dX9_mayComplain_10 : decode cX9_mayComplain 10 = .ok (.iadd, 1) := by decide +kernel
theorem dX9_mayComplain_11 : decode cX9_mayComplain 11 = .ok (.istore 4, 2) := by decide +kernel
theorem dX9_mayComplain_13 : decode cX9_mayComplain 13 = .ok (.aload_n 0, 1) := by decide +kernel
theorem dX9_mayComplain_14 : decode cX9_mayComplain 14 = .ok (.getfield 56, 3) := by decide +kernel
theorem dX9_mayComplain_17 : decode cX9_mayComplain 17 = .ok (.iload_n 2, 1) := by decide +kernel
theorem dX9_mayComplain_18 : decode cX9_mayComplain 18 = .ok (.baload, 1) := by decide +kernel
theorem dX9_mayComplain_19 : decode cX9_mayComplain 19 = .ok (.ifCond .ne 39, 3) := by decide +kernel
theorem dX9_mayComplain_22 : decode cX9_mayComplain 22 = .ok (.aload_n 0, 1) := by decide +kernel
theorem dX9_mayComplain_23 : decode cX9_mayComplain 23 = .ok (.getfield 108, 3) := by decide +kernel
theorem dX9_mayComplain_26 : decode cX9_mayComplain 26 = .ok (.aload_n 0, 1) := by decide +kernel
theorem dX9_mayComplain_27 : decode cX9_mayComplain 27 = .ok (.iload_n 2, 1) := by decide +kernel
theorem dX9_mayComplain_28 : decode cX9_mayComplain 28 = .ok (.invokevirtual 154, 3) := by decide +kernel
theorem dX9_mayComplain_31 : decode cX9_mayComplain 31 = .ok (.if_icmp .ge 27, 3) := by decide +kernel
theorem dX9_mayComplain_34 : decode cX9_mayComplain 34 = .ok (.aload_n 0, 1) := by decide +kernel
theorem dX9_mayComplain_35 : decode cX9_mayComplain 35 = .ok (.getfield 31, 3) := by decide +kernel
theorem dX9_mayComplain_38 : decode cX9_mayComplain 38 = .ok (.iload 4, 2) := by decide +kernel
theorem dX9_mayComplain_40 : decode cX9_mayComplain 40 = .ok (.iaload, 1) := by decide +kernel
theorem dX9_mayComplain_41 : decode cX9_mayComplain 41 = .ok (.ifCond .le 17, 3) := by decide +kernel
theorem dX9_mayComplain_44 : decode cX9_mayComplain 44 = .ok (.aload_n 0, 1) := by decide +kernel
theorem dX9_mayComplain_45 : decode cX9_mayComplain 45 = .ok (.getfield 50, 3) := by decide +kernel
theorem dX9_mayComplain_48 : decode cX9_mayComplain 48 = .ok (.iload_n 2, 1) := by decide +kernel
theorem dX9_mayComplain_49 : decode cX9_mayComplain 49 = .ok (.iaload, 1) := by decide +kernel
theorem dX9_mayComplain_50 : decode cX9_mayComplain 50 = .ok (.iload_n 1, 1) := by decide +kernel
theorem dX9_mayComplain_51 : decode cX9_mayComplain 51 = .ok (.if_icmp .eq 7, 3) := by decide +kernel
theorem dX9_mayComplain_54 : decode cX9_mayComplain 54 = .ok (.iconst 1, 1) := by decide +kernel
theorem dX9_mayComplain_55 : decode cX9_mayComplain 55 = .ok (.goto 4, 3) := by decide +kernel
theorem dX9_mayComplain_58 : decode cX9_mayComplain 58 = .ok (.iconst 0, 1) := by decide +kernel
theorem dX9_mayComplain_59 : decode cX9_mayComplain 59 = .ok (.istore 5, 2) := by decide +kernel
theorem dX9_mayComplain_61 : decode cX9_mayComplain 61 = .ok (.iconst 0, 1) := by decide +kernel
theorem dX9_mayComplain_62 : decode cX9_mayComplain 62 = .ok (.istore 6, 2) := by decide +kernel
theorem dX9_mayComplain_64 : decode cX9_mayComplain 64 = .ok (.iload 6, 2) := by decide +kernel
theorem dX9_mayComplain_66 : decode cX9_mayComplain 66 = .ok (.aload_n 0, 1) := by decide +kernel
theorem dX9_mayComplain_67 : decode cX9_mayComplain 67 = .ok (.getfield 148, 3) := by decide +kernel
theorem dX9_mayComplain_70 : decode cX9_mayComplain 70 = .ok (.if_icmp .ge 43, 3) := by decide +kernel
theorem dX9_mayComplain_73 : decode cX9_mayComplain 73 = .ok (.iload 5, 2) := by decide +kernel
theorem dX9_mayComplain_75 : decode cX9_mayComplain 75 = .ok (.ifCond .eq 29, 3) := by decide +kernel
theorem dX9_mayComplain_78 : decode cX9_mayComplain 78 = .ok (.aload_n 0, 1) := by decide +kernel
theorem dX9_mayComplain_79 : decode cX9_mayComplain 79 = .ok (.getfield 62, 3) := by decide +kernel
theorem dX9_mayComplain_82 : decode cX9_mayComplain 82 = .ok (.iload 6, 2) := by decide +kernel
theorem dX9_mayComplain_84 : decode cX9_mayComplain 84 = .ok (.iaload, 1) := by decide +kernel
theorem dX9_mayComplain_85 : decode cX9_mayComplain 85 = .ok (.iload_n 2, 1) := by decide +kernel
theorem dX9_mayComplain_86 : decode cX9_mayComplain 86 = .ok (.if_icmp .ne 14, 3) := by decide +kernel
theorem dX9_mayComplain_89 : decode cX9_mayComplain 89 = .ok (.aload_n 0, 1) := by decide +kernel
theorem dX9_mayComplain_90 : decode cX9_mayComplain 90 = .ok (.getfield 65, 3) := by decide +kernel
theorem dX9_mayComplain_93 : decode cX9_mayComplain 93 = .ok (.iload 6, 2) := by decide +kernel
theorem dX9_mayComplain_95 : decode cX9_mayComplain 95 = .ok (.iaload, 1) := by decide +kernel
theorem dX9_mayComplain_96 : decode cX9_mayComplain 96 = .ok (.iload_n 1, 1) := by decide +kernel
theorem dX9_mayComplain_97 : decode cX9_mayComplain 97 = .ok (.if_icmp .eq 7, 3) := by decide +kernel
theorem dX9_mayComplain_100 : decode cX9_mayComplain 100 = .ok (.iconst 1, 1) := by decide +kernel
theorem dX9_mayComplain_101 : decode cX9_mayComplain 101 = .ok (.goto 4, 3) := by decide +kernel
theorem dX9_mayComplain_104 : decode cX9_mayComplain 104 = .ok (.iconst 0, 1) := by decide +kernel
theorem dX9_mayComplain_105 : decode cX9_mayComplain 105 = .ok (.istore 5, 2) := by decide +kernel
theorem dX9_mayComplain_107 : decode cX9_mayComplain 107 = .ok (.iinc 6 1, 3) := by decide +kernel
theorem dX9_mayComplain_110 : decode cX9_mayComplain 110 = .ok (.goto (-46), 3) := by decide +kernel
theorem dX9_mayComplain_113 : decode cX9_mayComplain 113 = .ok (.iload 5, 2) := by decide +kernel
theorem dX9_mayComplain_115 : decode cX9_mayComplain 115 = .ok (.ifCond .eq 22, 3) := by decide +kernel
theorem dX9_mayComplain_118 : decode cX9_mayComplain 118 = .ok (.iload_n 3, 1) := by decide +kernel
theorem dX9_mayComplain_119 : decode cX9_mayComplain 119 = .ok (.iconst 2, 1) := by decide +kernel
theorem dX9_mayComplain_120 : decode cX9_mayComplain 120 = .ok (.if_icmp .ne 13, 3) := by decide +kernel
theorem dX9_mayComplain_123 : decode cX9_mayComplain 123 = .ok (.aload_n 0, 1) := by decide +kernel
theorem dX9_mayComplain_124 : decode cX9_mayComplain 124 = .ok (.getfield 40, 3) := by decide +kernel
theorem dX9_mayComplain_127 : decode cX9_mayComplain 127 = .ok (.iload 4, 2) := by decide +kernel
theorem dX9_mayComplain_129 : decode cX9_mayComplain 129 = .ok (.baload, 1) := by decide +kernel
theorem dX9_mayComplain_130 : decode cX9_mayComplain 130 = .ok (.ifCond .eq 7, 3) := by decide +kernel
theorem dX9_mayComplain_133 : decode cX9_mayComplain 133 = .ok (.iconst 1, 1) := by decide +kernel
theorem dX9_mayComplain_134 : decode cX9_mayComplain 134 = .ok (.goto 4, 3) := by decide +kernel
theorem dX9_mayComplain_137 : decode cX9_mayComplain 137 = .ok (.iconst 0, 1) := by decide +kernel
theorem dX9_mayComplain_138 : decode cX9_mayComplain 138 = .ok (.ireturn, 1) := by decide +kernel
set_option maxRecDepth 20000 in
theorem ggX9_complain_X9_isBidder : GoodIn wsX9_complain wsX9_isBidder := goodIn_r _ [10, 11, 12, 9, 13] (by decide +kernel) (by decide +kernel)
set_option maxRecDepth 20000 in
theorem gX9_complain_X9_isBidder : GoodIn wsX9_complain (va_wsS RX9 114 yX9_isBidder wsX9_isBidder) := goodIn_app (goodIn_of _ (by decide +kernel)) ggX9_complain_X9_isBidder
set_option maxRecDepth 20000 in
theorem ggX9_complain_X9_in : GoodIn wsX9_complain wsX9_in := goodIn_r _ [13] (by decide +kernel) (by decide +kernel)
set_option maxRecDepth 20000 in
theorem gX9_complain_X9_in : GoodIn wsX9_complain (va_wsS RX9 97 yX9_in wsX9_in) := goodIn_app (goodIn_of _ (by decide +kernel)) ggX9_complain_X9_in
set_option maxRecDepth 20000 in
theorem ggX9_complain_X9_mayComplain : GoodIn wsX9_complain wsX9_mayComplain := goodIn_r _ [17, 18, 19, 20, 21, 22, 3, 4, 5, 23, 24, 25, 26, 9, 27, 28, 29, 30, 31, 32, 33, 34, 35, 36, 37, 38, 39, 40, 41, 42, 43, 44, 45, 46, 47, 48, 49, 50, 51, 52, 53, 54, 55, 56, 57, 58, 59, 60, 61, 62, 63, 64] (by decide +kernel) (by decide +kernel)
set_option maxRecDepth 20000 in
theorem gX9_complain_X9_mayComplain : GoodIn wsX9_complain (wsV RX9 189 RX9 yX9_mayComplain wsX9_mayComplain) := goodIn_app (goodIn_of _ (by decide +kernel)) ggX9_complain_X9_mayComplain
theorem dX9_complain_0 : decode cX9_complain 0 = .ok (.aload_n 0, 1) := by decide +kernel
theorem dX9_complain_1 : decode cX9_complain 1 = .ok (.iload_n 1, 1) := by decide +kernel
theorem dX9_complain_2 : decode cX9_complain 2 = .ok (.invokestatic 114, 3) := by decide +kernel
theorem dX9_complain_5 : decode cX9_complain 5 = .ok (.ifCond .eq 17, 3) := by decide +kernel
theorem dX9_complain_8 : decode cX9_complain 8 = .ok (.iload_n 2, 1) := by decide +kernel
theorem dX9_complain_9 : decode cX9_complain 9 = .ok (.iconst 0, 1) := by decide +kernel
theorem dX9_complain_10 : decode cX9_complain 10 = .ok (.aload_n 0, 1) := by decide +kernel
theorem dX9_complain_11 : decode cX9_complain 11 = .ok (.getfield 157, 3) := by decide +kernel
theorem dX9_complain_14 : decode cX9_complain 14 = .ok (.iconst 1, 1) := by decide +kernel
theorem dX9_complain_15 : decode cX9_complain 15 = .ok (.isub, 1) := by decide +kernel
theorem dX9_complain_16 : decode cX9_complain 16 = .ok (.invokestatic 97, 3) := by decide +kernel
theorem dX9_complain_19 : decode cX9_complain 19 = .ok (.ifCond .ne 7, 3) := by decide +kernel
theorem dX9_complain_22 : decode cX9_complain 22 = .ok (.iconst 1, 1) := by decide +kernel
theorem dX9_complain_23 : decode cX9_complain 23 = .ok (.goto 17, 3) := by decide +kernel
theorem dX9_complain_26 : decode cX9_complain 26 = .ok (.iload_n 3, 1) := by decide +kernel
theorem dX9_complain_27 : decode cX9_complain 27 = .ok (.iconst 0, 1) := by decide +kernel
theorem dX9_complain_28 : decode cX9_complain 28 = .ok (.iconst 2, 1) := by decide +kernel
theorem dX9_complain_29 : decode cX9_complain 29 = .ok (.invokestatic 97, 3) := by decide +kernel
theorem dX9_complain_32 : decode cX9_complain 32 = .ok (.ifCond .ne 7, 3) := by decide +kernel
theorem dX9_complain_35 : decode cX9_complain 35 = .ok (.iconst 2, 1) := by decide +kernel
theorem dX9_complain_36 : decode cX9_complain 36 = .ok (.goto 4, 3) := by decide +kernel
theorem dX9_complain_39 : decode cX9_complain 39 = .ok (.iconst 0, 1) := by decide +kernel
theorem dX9_complain_40 : decode cX9_complain 40 = .ok (.putfield 93, 3) := by decide +kernel
theorem dX9_complain_43 : decode cX9_complain 43 = .ok (.aload_n 0, 1) := by decide +kernel
theorem dX9_complain_44 : decode cX9_complain 44 = .ok (.getfield 93, 3) := by decide +kernel
theorem dX9_complain_47 : decode cX9_complain 47 = .ok (.ifCond .ne 31, 3) := by decide +kernel
theorem dX9_complain_50 : decode cX9_complain 50 = .ok (.aload_n 0, 1) := by decide +kernel
theorem dX9_complain_51 : decode cX9_complain 51 = .ok (.aload_n 0, 1) := by decide +kernel
theorem dX9_complain_52 : decode cX9_complain 52 = .ok (.iload_n 1, 1) := by decide +kernel
theorem dX9_complain_53 : decode cX9_complain 53 = .ok (.iload_n 2, 1) := by decide +kernel
theorem dX9_complain_54 : decode cX9_complain 54 = .ok (.iload_n 3, 1) := by decide +kernel
theorem dX9_complain_55 : decode cX9_complain 55 = .ok (.invokevirtual 189, 3) := by decide +kernel
theorem dX9_complain_58 : decode cX9_complain 58 = .ok (.ifCond .eq 16, 3) := by decide +kernel
theorem dX9_complain_61 : decode cX9_complain 61 = .ok (.aload_n 0, 1) := by decide +kernel
theorem dX9_complain_62 : decode cX9_complain 62 = .ok (.getfield 148, 3) := by decide +kernel
theorem dX9_complain_65 : decode cX9_complain 65 = .ok (.bipush 60, 2) := by decide +kernel
theorem dX9_complain_67 : decode cX9_complain 67 = .ok (.if_icmp .ge 7, 3) := by decide +kernel
theorem dX9_complain_70 : decode cX9_complain 70 = .ok (.iconst 0, 1) := by decide +kernel
theorem dX9_complain_71 : decode cX9_complain 71 = .ok (.goto 4, 3) := by decide +kernel
theorem dX9_complain_74 : decode cX9_complain 74 = .ok (.iconst 3, 1) := by decide +kernel
theorem dX9_complain_75 : decode cX9_complain 75 = .ok (.putfield 93, 3) := by decide +kernel
theorem dX9_complain_78 : decode cX9_complain 78 = .ok (.aload_n 0, 1) := by decide +kernel
theorem dX9_complain_79 : decode cX9_complain 79 = .ok (.getfield 93, 3) := by decide +kernel
theorem dX9_complain_82 : decode cX9_complain 82 = .ok (.ifCond .le 5, 3) := by decide +kernel
theorem dX9_complain_85 : decode cX9_complain 85 = .ok (.iconst 0, 1) := by decide +kernel
theorem dX9_complain_86 : decode cX9_complain 86 = .ok (.ireturn, 1) := by decide +kernel
theorem dX9_complain_87 : decode cX9_complain 87 = .ok (.aload_n 0, 1) := by decide +kernel
theorem dX9_complain_88 : decode cX9_complain 88 = .ok (.getfield 62, 3) := by decide +kernel
theorem dX9_complain_91 : decode cX9_complain 91 = .ok (.aload_n 0, 1) := by decide +kernel
theorem dX9_complain_92 : decode cX9_complain 92 = .ok (.getfield 148, 3) := by decide +kernel
theorem dX9_complain_95 : decode cX9_complain 95 = .ok (.iload_n 2, 1) := by decide +kernel
theorem dX9_complain_96 : decode cX9_complain 96 = .ok (.iastore, 1) := by decide +kernel
theorem dX9_complain_97 : decode cX9_complain 97 = .ok (.aload_n 0, 1) := by decide +kernel
theorem dX9_complain_98 : decode cX9_complain 98 = .ok (.getfield 65, 3) := by decide +kernel
theorem dX9_complain_101 : decode cX9_complain 101 = .ok (.aload_n 0, 1) := by decide +kernel
theorem dX9_complain_102 : decode cX9_complain 102 = .ok (.getfield 148, 3) := by decide +kernel
theorem dX9_complain_105 : decode cX9_complain 105 = .ok (.iload_n 1, 1) := by decide +kernel
theorem dX9_complain_106 : decode cX9_complain 106 = .ok (.iastore, 1) := by decide +kernel
theorem dX9_complain_107 : decode cX9_complain 107 = .ok (.aload_n 0, 1) := by decide +kernel
theorem dX9_complain_108 : decode cX9_complain 108 = .ok (.getfield 68, 3) := by decide +kernel
theorem dX9_complain_111 : decode cX9_complain 111 = .ok (.aload_n 0, 1) := by decide +kernel
theorem dX9_complain_112 : decode cX9_complain 112 = .ok (.getfield 148, 3) := by decide +kernel
theorem dX9_complain_115 : decode cX9_complain 115 = .ok (.iload_n 3, 1) := by decide +kernel
theorem dX9_complain_116 : decode cX9_complain 116 = .ok (.iastore, 1) := by decide +kernel
theorem dX9_complain_117 : decode cX9_complain 117 = .ok (.aload_n 0, 1) := by decide +kernel
theorem dX9_complain_118 : decode cX9_complain 118 = .ok (.dup, 1) := by decide +kernel
theorem dX9_complain_119 : decode cX9_complain 119 = .ok (.getfield 148, 3) := by decide +kernel
theorem dX9_complain_122 : decode cX9_complain 122 = .ok (.iconst 1, 1) := by decide +kernel
theorem dX9_complain_123 : decode cX9_complain 123 = .ok (.iadd, 1) := by decide +kernel
theorem dX9_complain_124 : decode cX9_complain 124 = .ok (.putfield 148, 3) := by decide +kernel
theorem dX9_complain_127 : decode cX9_complain 127 = .ok (.aload_n 0, 1) := by decide +kernel
theorem dX9_complain_128 : decode cX9_complain 128 = .ok (.getfield 148, 3) := by decide +kernel
theorem dX9_complain_131 : decode cX9_complain 131 = .ok (.iconst 1, 1) := by decide +kernel
theorem dX9_complain_132 : decode cX9_complain 132 = .ok (.isub, 1) := by decide +kernel
theorem dX9_complain_133 : decode cX9_complain 133 = .ok (.ireturn, 1) := by decide +kernel
set_option maxRecDepth 20000 in
theorem ggX9_upholds_X9_gives : GoodIn wsX9_upholds wsX9_gives := goodIn_r _ [16, 2, 17, 3, 18, 19, 20, 21, 22, 15, 23, 24, 25, 26, 27, 28, 7, 5, 29, 30, 31, 32, 33, 34, 35, 36, 37, 38, 39, 40, 41, 42, 43, 6, 44, 45, 46, 47, 48, 49, 50, 51, 52, 53, 54, 55, 56, 57, 58, 59, 60, 61, 62, 63, 64, 65, 66, 67, 68, 69, 70, 71, 72, 73, 74, 75, 76, 77, 78] (by decide +kernel) (by decide +kernel)
set_option maxRecDepth 20000 in
theorem gX9_upholds_X9_gives : GoodIn wsX9_upholds (wsV RX9 163 RX9 yX9_gives wsX9_gives) := goodIn_app (goodIn_of _ (by decide +kernel)) ggX9_upholds_X9_gives
theorem dX9_upholds_0 : decode cX9_upholds 0 = .ok (.aload_n 0, 1) := by decide +kernel
theorem dX9_upholds_1 : decode cX9_upholds 1 = .ok (.getfield 62, 3) := by decide +kernel
theorem dX9_upholds_4 : decode cX9_upholds 4 = .ok (.iload_n 1, 1) := by decide +kernel
theorem dX9_upholds_5 : decode cX9_upholds 5 = .ok (.iaload, 1) := by decide +kernel
theorem dX9_upholds_6 : decode cX9_upholds 6 = .ok (.istore_n 3, 1) := by decide +kernel
theorem dX9_upholds_7 : decode cX9_upholds 7 = .ok (.bipush 8, 2) := by decide +kernel
theorem dX9_upholds_9 : decode cX9_upholds 9 = .ok (.aload_n 0, 1) := by decide +kernel
theorem dX9_upholds_10 : decode cX9_upholds 10 = .ok (.getfield 47, 3) := by decide +kernel
theorem dX9_upholds_13 : decode cX9_upholds 13 = .ok (.iload_n 3, 1) := by decide +kernel
theorem dX9_upholds_14 : decode cX9_upholds 14 = .ok (.iaload, 1) := by decide +kernel
theorem dX9_upholds_15 : decode cX9_upholds 15 = .ok (.imul, 1) := by decide +kernel
theorem dX9_upholds_16 : decode cX9_upholds 16 = .ok (.aload_n 0, 1) := by decide +kernel
theorem dX9_upholds_17 : decode cX9_upholds 17 = .ok (.getfield 50, 3) := by decide +kernel
theorem dX9_upholds_20 : decode cX9_upholds 20 = .ok (.iload_n 3, 1) := by decide +kernel
theorem dX9_upholds_21 : decode cX9_upholds 21 = .ok (.iaload, 1) := by decide +kernel
theorem dX9_upholds_22 : decode cX9_upholds 22 = .ok (.iadd, 1) := by decide +kernel
theorem dX9_upholds_23 : decode cX9_upholds 23 = .ok (.istore 4, 2) := by decide +kernel
theorem dX9_upholds_25 : decode cX9_upholds 25 = .ok (.aload_n 0, 1) := by decide +kernel
theorem dX9_upholds_26 : decode cX9_upholds 26 = .ok (.getfield 68, 3) := by decide +kernel
theorem dX9_upholds_29 : decode cX9_upholds 29 = .ok (.iload_n 1, 1) := by decide +kernel
theorem dX9_upholds_30 : decode cX9_upholds 30 = .ok (.iaload, 1) := by decide +kernel
theorem dX9_upholds_31 : decode cX9_upholds 31 = .ok (.ifCond .ne 14, 3) := by decide +kernel
theorem dX9_upholds_34 : decode cX9_upholds 34 = .ok (.aload_n 0, 1) := by decide +kernel
theorem dX9_upholds_35 : decode cX9_upholds 35 = .ok (.getfield 44, 3) := by decide +kernel
theorem dX9_upholds_38 : decode cX9_upholds 38 = .ok (.iload 4, 2) := by decide +kernel
theorem dX9_upholds_40 : decode cX9_upholds 40 = .ok (.iconst 1, 1) := by decide +kernel
theorem dX9_upholds_41 : decode cX9_upholds 41 = .ok (.bastore, 1) := by decide +kernel
theorem dX9_upholds_42 : decode cX9_upholds 42 = .ok (.goto 46, 3) := by decide +kernel
theorem dX9_upholds_45 : decode cX9_upholds 45 = .ok (.aload_n 0, 1) := by decide +kernel
theorem dX9_upholds_46 : decode cX9_upholds 46 = .ok (.getfield 68, 3) := by decide +kernel
theorem dX9_upholds_49 : decode cX9_upholds 49 = .ok (.iload_n 1, 1) := by decide +kernel
theorem dX9_upholds_50 : decode cX9_upholds 50 = .ok (.iaload, 1) := by decide +kernel
theorem dX9_upholds_51 : decode cX9_upholds 51 = .ok (.iconst 1, 1) := by decide +kernel
theorem dX9_upholds_52 : decode cX9_upholds 52 = .ok (.if_icmp .ne 14, 3) := by decide +kernel
theorem dX9_upholds_55 : decode cX9_upholds 55 = .ok (.aload_n 0, 1) := by decide +kernel
theorem dX9_upholds_56 : decode cX9_upholds 56 = .ok (.getfield 34, 3) := by decide +kernel
theorem dX9_upholds_59 : decode cX9_upholds 59 = .ok (.iload 4, 2) := by decide +kernel
theorem dX9_upholds_61 : decode cX9_upholds 61 = .ok (.iload_n 2, 1) := by decide +kernel
theorem dX9_upholds_62 : decode cX9_upholds 62 = .ok (.iastore, 1) := by decide +kernel
theorem dX9_upholds_63 : decode cX9_upholds 63 = .ok (.goto 25, 3) := by decide +kernel
theorem dX9_upholds_66 : decode cX9_upholds 66 = .ok (.aload_n 0, 1) := by decide +kernel
theorem dX9_upholds_67 : decode cX9_upholds 67 = .ok (.getfield 40, 3) := by decide +kernel
theorem dX9_upholds_70 : decode cX9_upholds 70 = .ok (.bipush 8, 2) := by decide +kernel
theorem dX9_upholds_72 : decode cX9_upholds 72 = .ok (.aload_n 0, 1) := by decide +kernel
theorem dX9_upholds_73 : decode cX9_upholds 73 = .ok (.getfield 47, 3) := by decide +kernel
theorem dX9_upholds_76 : decode cX9_upholds 76 = .ok (.iload_n 3, 1) := by decide +kernel
theorem dX9_upholds_77 : decode cX9_upholds 77 = .ok (.iaload, 1) := by decide +kernel
theorem dX9_upholds_78 : decode cX9_upholds 78 = .ok (.imul, 1) := by decide +kernel
theorem dX9_upholds_79 : decode cX9_upholds 79 = .ok (.aload_n 0, 1) := by decide +kernel
theorem dX9_upholds_80 : decode cX9_upholds 80 = .ok (.getfield 65, 3) := by decide +kernel
theorem dX9_upholds_83 : decode cX9_upholds 83 = .ok (.iload_n 1, 1) := by decide +kernel
theorem dX9_upholds_84 : decode cX9_upholds 84 = .ok (.iaload, 1) := by decide +kernel
theorem dX9_upholds_85 : decode cX9_upholds 85 = .ok (.iadd, 1) := by decide +kernel
theorem dX9_upholds_86 : decode cX9_upholds 86 = .ok (.iconst 0, 1) := by decide +kernel
theorem dX9_upholds_87 : decode cX9_upholds 87 = .ok (.bastore, 1) := by decide +kernel
theorem dX9_upholds_88 : decode cX9_upholds 88 = .ok (.aload_n 0, 1) := by decide +kernel
theorem dX9_upholds_89 : decode cX9_upholds 89 = .ok (.getfield 71, 3) := by decide +kernel
theorem dX9_upholds_92 : decode cX9_upholds 92 = .ok (.iload_n 1, 1) := by decide +kernel
theorem dX9_upholds_93 : decode cX9_upholds 93 = .ok (.iconst 1, 1) := by decide +kernel
theorem dX9_upholds_94 : decode cX9_upholds 94 = .ok (.iastore, 1) := by decide +kernel
theorem dX9_upholds_95 : decode cX9_upholds 95 = .ok (.aload_n 0, 1) := by decide +kernel
theorem dX9_upholds_96 : decode cX9_upholds 96 = .ok (.getfield 56, 3) := by decide +kernel
theorem dX9_upholds_99 : decode cX9_upholds 99 = .ok (.iload_n 3, 1) := by decide +kernel
theorem dX9_upholds_100 : decode cX9_upholds 100 = .ok (.iconst 1, 1) := by decide +kernel
theorem dX9_upholds_101 : decode cX9_upholds 101 = .ok (.bastore, 1) := by decide +kernel
theorem dX9_upholds_102 : decode cX9_upholds 102 = .ok (.iconst 0, 1) := by decide +kernel
theorem dX9_upholds_103 : decode cX9_upholds 103 = .ok (.istore 5, 2) := by decide +kernel
theorem dX9_upholds_105 : decode cX9_upholds 105 = .ok (.iload 5, 2) := by decide +kernel
theorem dX9_upholds_107 : decode cX9_upholds 107 = .ok (.aload_n 0, 1) := by decide +kernel
theorem dX9_upholds_108 : decode cX9_upholds 108 = .ok (.getfield 148, 3) := by decide +kernel
theorem dX9_upholds_111 : decode cX9_upholds 111 = .ok (.if_icmp .ge 48, 3) := by decide +kernel
theorem dX9_upholds_114 : decode cX9_upholds 114 = .ok (.aload_n 0, 1) := by decide +kernel
theorem dX9_upholds_115 : decode cX9_upholds 115 = .ok (.getfield 71, 3) := by decide +kernel
theorem dX9_upholds_118 : decode cX9_upholds 118 = .ok (.iload 5, 2) := by decide +kernel
theorem dX9_upholds_120 : decode cX9_upholds 120 = .ok (.aload_n 0, 1) := by decide +kernel
theorem dX9_upholds_121 : decode cX9_upholds 121 = .ok (.getfield 62, 3) := by decide +kernel
theorem dX9_upholds_124 : decode cX9_upholds 124 = .ok (.iload 5, 2) := by decide +kernel
theorem dX9_upholds_126 : decode cX9_upholds 126 = .ok (.iaload, 1) := by decide +kernel
theorem dX9_upholds_127 : decode cX9_upholds 127 = .ok (.iload_n 3, 1) := by decide +kernel
theorem dX9_upholds_128 : decode cX9_upholds 128 = .ok (.if_icmp .ne 17, 3) := by decide +kernel
theorem dX9_upholds_131 : decode cX9_upholds 131 = .ok (.aload_n 0, 1) := by decide +kernel
theorem dX9_upholds_132 : decode cX9_upholds 132 = .ok (.getfield 71, 3) := by decide +kernel
theorem dX9_upholds_135 : decode cX9_upholds 135 = .ok (.iload 5, 2) := by decide +kernel
theorem dX9_upholds_137 : decode cX9_upholds 137 = .ok (.iaload, 1) := by decide +kernel
theorem dX9_upholds_138 : decode cX9_upholds 138 = .ok (.ifCond .ne 7, 3) := by decide +kernel
theorem dX9_upholds_141 : decode cX9_upholds 141 = .ok (.iconst 3, 1) := by decide +kernel
theorem dX9_upholds_142 : decode cX9_upholds 142 = .ok (.goto 10, 3) := by decide +kernel
theorem dX9_upholds_145 : decode cX9_upholds 145 = .ok (.aload_n 0, 1) := by decide +kernel
theorem dX9_upholds_146 : decode cX9_upholds 146 = .ok (.getfield 71, 3) := by decide +kernel
theorem dX9_upholds_149 : decode cX9_upholds 149 = .ok (.iload 5, 2) := by decide +kernel
theorem dX9_upholds_151 : decode cX9_upholds 151 = .ok (.iaload, 1) := by decide +kernel
theorem dX9_upholds_152 : decode cX9_upholds 152 = .ok (.iastore, 1) := by decide +kernel
theorem dX9_upholds_153 : decode cX9_upholds 153 = .ok (.iinc 5 1, 3) := by decide +kernel
theorem dX9_upholds_156 : decode cX9_upholds 156 = .ok (.goto (-51), 3) := by decide +kernel
theorem dX9_upholds_159 : decode cX9_upholds 159 = .ok (.aload_n 0, 1) := by decide +kernel
theorem dX9_upholds_160 : decode cX9_upholds 160 = .ok (.aload_n 0, 1) := by decide +kernel
theorem dX9_upholds_161 : decode cX9_upholds 161 = .ok (.getfield 47, 3) := by decide +kernel
theorem dX9_upholds_164 : decode cX9_upholds 164 = .ok (.iload_n 3, 1) := by decide +kernel
theorem dX9_upholds_165 : decode cX9_upholds 165 = .ok (.iaload, 1) := by decide +kernel
theorem dX9_upholds_166 : decode cX9_upholds 166 = .ok (.invokevirtual 163, 3) := by decide +kernel
theorem dX9_upholds_169 : decode cX9_upholds 169 = .ok (.ireturn, 1) := by decide +kernel
set_option maxRecDepth 20000 in
theorem ggX9_isComplaint_X9_in : GoodIn wsX9_isComplaint wsX9_in := goodIn_r _ [5] (by decide +kernel) (by decide +kernel)
set_option maxRecDepth 20000 in
theorem gX9_isComplaint_X9_in : GoodIn wsX9_isComplaint (va_wsS RX9 97 yX9_in wsX9_in) := goodIn_app (goodIn_of _ (by decide +kernel)) ggX9_isComplaint_X9_in
theorem dX9_isComplaint_0 : decode cX9_isComplaint 0 = .ok (.iload_n 1, 1) := by decide +kernel
theorem dX9_isComplaint_1 : decode cX9_isComplaint 1 = .ok (.iconst 0, 1) := by decide +kernel
theorem dX9_isComplaint_2 : decode cX9_isComplaint 2 = .ok (.aload_n 0, 1) := by decide +kernel
theorem dX9_isComplaint_3 : decode cX9_isComplaint 3 = .ok (.getfield 148, 3) := by decide +kernel
theorem dX9_isComplaint_6 : decode cX9_isComplaint 6 = .ok (.iconst 1, 1) := by decide +kernel
theorem dX9_isComplaint_7 : decode cX9_isComplaint 7 = .ok (.isub, 1) := by decide +kernel
theorem dX9_isComplaint_8 : decode cX9_isComplaint 8 = .ok (.invokestatic 97, 3) := by decide +kernel
theorem dX9_isComplaint_11 : decode cX9_isComplaint 11 = .ok (.ireturn, 1) := by decide +kernel
set_option maxRecDepth 20000 in
theorem ggX9_rule_X9_isComplaint : GoodIn wsX9_rule wsX9_isComplaint := goodIn_r _ [10, 11, 12, 13, 9, 14, 57, 58, 59, 60, 61, 62, 63, 64, 65, 66, 67, 68, 69, 70, 71, 72, 73, 74, 75, 76, 77, 78, 79, 80, 81, 82, 83, 84, 85, 86, 87, 88, 89, 90, 91] (by decide +kernel) (by decide +kernel)
set_option maxRecDepth 20000 in
theorem gX9_rule_X9_isComplaint : GoodIn wsX9_rule (wsV RX9 192 RX9 yX9_isComplaint wsX9_isComplaint) := goodIn_app (goodIn_of _ (by decide +kernel)) ggX9_rule_X9_isComplaint
set_option maxRecDepth 20000 in
theorem ggX9_rule_X9_in : GoodIn wsX9_rule wsX9_in := goodIn_r _ [14] (by decide +kernel) (by decide +kernel)
set_option maxRecDepth 20000 in
theorem gX9_rule_X9_in : GoodIn wsX9_rule (va_wsS RX9 97 yX9_in wsX9_in) := goodIn_app (goodIn_of _ (by decide +kernel)) ggX9_rule_X9_in
set_option maxRecDepth 20000 in
theorem ggX9_rule_X9_upholds : GoodIn wsX9_rule wsX9_upholds := goodIn_r _ [18, 19, 20, 21, 22, 23, 24, 25, 26, 1, 27, 11, 28, 29, 30, 9, 31, 2, 32, 5, 33, 34, 35, 36, 37, 38, 39, 40, 41, 42, 43, 44, 45, 46, 47, 48, 49, 50, 51, 52, 53, 54, 55, 56, 57, 58, 59, 60, 61, 62, 63, 64, 65, 66, 67, 68, 69, 70, 71, 72, 73, 74, 75, 76, 77, 78, 79, 80, 81, 82, 83, 84, 85, 86, 87, 88, 89, 90, 91] (by decide +kernel) (by decide +kernel)
set_option maxRecDepth 20000 in
theorem gX9_rule_X9_upholds : GoodIn wsX9_rule (wsV RX9 195 RX9 yX9_upholds wsX9_upholds) := goodIn_app (goodIn_of _ (by decide +kernel)) ggX9_rule_X9_upholds
theorem dX9_rule_0 : decode cX9_rule 0 = .ok (.aload_n 0, 1) := by decide +kernel
theorem dX9_rule_1 : decode cX9_rule 1 = .ok (.aload_n 0, 1) := by decide +kernel
theorem dX9_rule_2 : decode cX9_rule 2 = .ok (.iload_n 1, 1) := by decide +kernel
theorem dX9_rule_3 : decode cX9_rule 3 = .ok (.invokevirtual 192, 3) := by decide +kernel
theorem dX9_rule_6 : decode cX9_rule 6 = .ok (.ifCond .ne 7, 3) := by decide +kernel
theorem dX9_rule_9 : decode cX9_rule 9 = .ok (.iconst 1, 1) := by decide +kernel
theorem dX9_rule_10 : decode cX9_rule 10 = .ok (.goto 44, 3) := by decide +kernel
theorem dX9_rule_13 : decode cX9_rule 13 = .ok (.iload_n 3, 1) := by decide +kernel
theorem dX9_rule_14 : decode cX9_rule 14 = .ok (.iconst 0, 1) := by decide +kernel
theorem dX9_rule_15 : decode cX9_rule 15 = .ok (.bipush 100, 2) := by decide +kernel
theorem dX9_rule_17 : decode cX9_rule 17 = .ok (.invokestatic 97, 3) := by decide +kernel
theorem dX9_rule_20 : decode cX9_rule 20 = .ok (.ifCond .ne 7, 3) := by decide +kernel
theorem dX9_rule_23 : decode cX9_rule 23 = .ok (.iconst 2, 1) := by decide +kernel
theorem dX9_rule_24 : decode cX9_rule 24 = .ok (.goto 30, 3) := by decide +kernel
theorem dX9_rule_27 : decode cX9_rule 27 = .ok (.aload_n 0, 1) := by decide +kernel
theorem dX9_rule_28 : decode cX9_rule 28 = .ok (.getfield 71, 3) := by decide +kernel
theorem dX9_rule_31 : decode cX9_rule 31 = .ok (.iload_n 1, 1) := by decide +kernel
theorem dX9_rule_32 : decode cX9_rule 32 = .ok (.iaload, 1) := by decide +kernel
theorem dX9_rule_33 : decode cX9_rule 33 = .ok (.ifCond .ne 16, 3) := by decide +kernel
theorem dX9_rule_36 : decode cX9_rule 36 = .ok (.iload_n 2, 1) := by decide +kernel
theorem dX9_rule_37 : decode cX9_rule 37 = .ok (.ifCond .eq 16, 3) := by decide +kernel
theorem dX9_rule_40 : decode cX9_rule 40 = .ok (.aload_n 0, 1) := by decide +kernel
theorem dX9_rule_41 : decode cX9_rule 41 = .ok (.getfield 157, 3) := by decide +kernel
theorem dX9_rule_44 : decode cX9_rule 44 = .ok (.bipush 60, 2) := by decide +kernel
theorem dX9_rule_46 : decode cX9_rule 46 = .ok (.if_icmp .ne 7, 3) := by decide +kernel
theorem dX9_rule_49 : decode cX9_rule 49 = .ok (.iconst 3, 1) := by decide +kernel
theorem dX9_rule_50 : decode cX9_rule 50 = .ok (.goto 4, 3) := by decide +kernel
theorem dX9_rule_53 : decode cX9_rule 53 = .ok (.iconst 0, 1) := by decide +kernel
theorem dX9_rule_54 : decode cX9_rule 54 = .ok (.putfield 93, 3) := by decide +kernel
theorem dX9_rule_57 : decode cX9_rule 57 = .ok (.aload_n 0, 1) := by decide +kernel
theorem dX9_rule_58 : decode cX9_rule 58 = .ok (.getfield 93, 3) := by decide +kernel
theorem dX9_rule_61 : decode cX9_rule 61 = .ok (.ifCond .le 5, 3) := by decide +kernel
theorem dX9_rule_64 : decode cX9_rule 64 = .ok (.iconst 0, 1) := by decide +kernel
theorem dX9_rule_65 : decode cX9_rule 65 = .ok (.ireturn, 1) := by decide +kernel
theorem dX9_rule_66 : decode cX9_rule 66 = .ok (.iload_n 2, 1) := by decide +kernel
theorem dX9_rule_67 : decode cX9_rule 67 = .ok (.ifCond .eq 10, 3) := by decide +kernel
theorem dX9_rule_70 : decode cX9_rule 70 = .ok (.aload_n 0, 1) := by decide +kernel
theorem dX9_rule_71 : decode cX9_rule 71 = .ok (.iload_n 1, 1) := by decide +kernel
theorem dX9_rule_72 : decode cX9_rule 72 = .ok (.iload_n 3, 1) := by decide +kernel
theorem dX9_rule_73 : decode cX9_rule 73 = .ok (.invokevirtual 195, 3) := by decide +kernel
theorem dX9_rule_76 : decode cX9_rule 76 = .ok (.ireturn, 1) := by decide +kernel
theorem dX9_rule_77 : decode cX9_rule 77 = .ok (.aload_n 0, 1) := by decide +kernel
theorem dX9_rule_78 : decode cX9_rule 78 = .ok (.getfield 71, 3) := by decide +kernel
theorem dX9_rule_81 : decode cX9_rule 81 = .ok (.iload_n 1, 1) := by decide +kernel
theorem dX9_rule_82 : decode cX9_rule 82 = .ok (.iconst 2, 1) := by decide +kernel
theorem dX9_rule_83 : decode cX9_rule 83 = .ok (.iastore, 1) := by decide +kernel
theorem dX9_rule_84 : decode cX9_rule 84 = .ok (.aload_n 0, 1) := by decide +kernel
theorem dX9_rule_85 : decode cX9_rule 85 = .ok (.getfield 74, 3) := by decide +kernel
theorem dX9_rule_88 : decode cX9_rule 88 = .ok (.iload_n 1, 1) := by decide +kernel
theorem dX9_rule_89 : decode cX9_rule 89 = .ok (.aload_n 0, 1) := by decide +kernel
theorem dX9_rule_90 : decode cX9_rule 90 = .ok (.getfield 108, 3) := by decide +kernel
theorem dX9_rule_93 : decode cX9_rule 93 = .ok (.iastore, 1) := by decide +kernel
theorem dX9_rule_94 : decode cX9_rule 94 = .ok (.iconst (-1), 1) := by decide +kernel
theorem dX9_rule_95 : decode cX9_rule 95 = .ok (.ireturn, 1) := by decide +kernel
set_option maxRecDepth 20000 in
theorem ggX9_appeal_X9_isComplaint : GoodIn wsX9_appeal wsX9_isComplaint := goodIn_r _ [12, 13, 14, 15, 11, 16, 21, 22, 23, 24, 25, 26, 27, 28, 29, 30, 31, 32, 33, 34, 35, 36, 37, 38, 39, 40, 41, 42, 43, 44, 45, 46, 47, 48, 49, 50, 51, 52, 53, 54, 55] (by decide +kernel) (by decide +kernel)
set_option maxRecDepth 20000 in
theorem gX9_appeal_X9_isComplaint : GoodIn wsX9_appeal (wsV RX9 192 RX9 yX9_isComplaint wsX9_isComplaint) := goodIn_app (goodIn_of _ (by decide +kernel)) ggX9_appeal_X9_isComplaint
set_option maxRecDepth 20000 in
theorem ggX9_appeal_X9_openOnes : GoodIn wsX9_appeal wsX9_openOnes := goodIn_r _ [20, 13, 7, 2, 21, 22, 23, 24, 25, 26, 27, 28, 29, 30, 31, 32, 33, 34, 35, 36, 37, 38, 39, 40, 41, 42, 43, 44, 45, 46, 47, 48, 49, 50, 51, 52, 53, 54, 55] (by decide +kernel) (by decide +kernel)
set_option maxRecDepth 20000 in
theorem gX9_appeal_X9_openOnes : GoodIn wsX9_appeal (wsV RX9 151 RX9 yX9_openOnes wsX9_openOnes) := goodIn_app (goodIn_of _ (by decide +kernel)) ggX9_appeal_X9_openOnes
theorem dX9_appeal_0 : decode cX9_appeal 0 = .ok (.aload_n 0, 1) := by decide +kernel
theorem dX9_appeal_1 : decode cX9_appeal 1 = .ok (.aload_n 0, 1) := by decide +kernel
theorem dX9_appeal_2 : decode cX9_appeal 2 = .ok (.iload_n 1, 1) := by decide +kernel
theorem dX9_appeal_3 : decode cX9_appeal 3 = .ok (.invokevirtual 192, 3) := by decide +kernel
theorem dX9_appeal_6 : decode cX9_appeal 6 = .ok (.ifCond .eq 7, 3) := by decide +kernel
theorem dX9_appeal_9 : decode cX9_appeal 9 = .ok (.iconst 0, 1) := by decide +kernel
theorem dX9_appeal_10 : decode cX9_appeal 10 = .ok (.goto 4, 3) := by decide +kernel
theorem dX9_appeal_13 : decode cX9_appeal 13 = .ok (.iconst 1, 1) := by decide +kernel
theorem dX9_appeal_14 : decode cX9_appeal 14 = .ok (.putfield 93, 3) := by decide +kernel
theorem dX9_appeal_17 : decode cX9_appeal 17 = .ok (.aload_n 0, 1) := by decide +kernel
theorem dX9_appeal_18 : decode cX9_appeal 18 = .ok (.getfield 93, 3) := by decide +kernel
theorem dX9_appeal_21 : decode cX9_appeal 21 = .ok (.ifCond .ne 71, 3) := by decide +kernel
theorem dX9_appeal_24 : decode cX9_appeal 24 = .ok (.aload_n 0, 1) := by decide +kernel
theorem dX9_appeal_25 : decode cX9_appeal 25 = .ok (.getfield 71, 3) := by decide +kernel
theorem dX9_appeal_28 : decode cX9_appeal 28 = .ok (.iload_n 1, 1) := by decide +kernel
theorem dX9_appeal_29 : decode cX9_appeal 29 = .ok (.iaload, 1) := by decide +kernel
theorem dX9_appeal_30 : decode cX9_appeal 30 = .ok (.iconst 2, 1) := by decide +kernel
theorem dX9_appeal_31 : decode cX9_appeal 31 = .ok (.if_icmp .ne 46, 3) := by decide +kernel
theorem dX9_appeal_34 : decode cX9_appeal 34 = .ok (.aload_n 0, 1) := by decide +kernel
theorem dX9_appeal_35 : decode cX9_appeal 35 = .ok (.getfield 77, 3) := by decide +kernel
theorem dX9_appeal_38 : decode cX9_appeal 38 = .ok (.iload_n 1, 1) := by decide +kernel
theorem dX9_appeal_39 : decode cX9_appeal 39 = .ok (.baload, 1) := by decide +kernel
theorem dX9_appeal_40 : decode cX9_appeal 40 = .ok (.ifCond .ne 37, 3) := by decide +kernel
theorem dX9_appeal_43 : decode cX9_appeal 43 = .ok (.aload_n 0, 1) := by decide +kernel
theorem dX9_appeal_44 : decode cX9_appeal 44 = .ok (.getfield 108, 3) := by decide +kernel
theorem dX9_appeal_47 : decode cX9_appeal 47 = .ok (.aload_n 0, 1) := by decide +kernel
theorem dX9_appeal_48 : decode cX9_appeal 48 = .ok (.getfield 74, 3) := by decide +kernel
theorem dX9_appeal_51 : decode cX9_appeal 51 = .ok (.iload_n 1, 1) := by decide +kernel
theorem dX9_appeal_52 : decode cX9_appeal 52 = .ok (.iaload, 1) := by decide +kernel
theorem dX9_appeal_53 : decode cX9_appeal 53 = .ok (.isub, 1) := by decide +kernel
theorem dX9_appeal_54 : decode cX9_appeal 54 = .ok (.bipush 10, 2) := by decide +kernel
theorem dX9_appeal_56 : decode cX9_appeal 56 = .ok (.if_icmp .gt 21, 3) := by decide +kernel
theorem dX9_appeal_59 : decode cX9_appeal 59 = .ok (.aload_n 0, 1) := by decide +kernel
theorem dX9_appeal_60 : decode cX9_appeal 60 = .ok (.getfield 56, 3) := by decide +kernel
theorem dX9_appeal_63 : decode cX9_appeal 63 = .ok (.aload_n 0, 1) := by decide +kernel
theorem dX9_appeal_64 : decode cX9_appeal 64 = .ok (.getfield 62, 3) := by decide +kernel
theorem dX9_appeal_67 : decode cX9_appeal 67 = .ok (.iload_n 1, 1) := by decide +kernel
theorem dX9_appeal_68 : decode cX9_appeal 68 = .ok (.iaload, 1) := by decide +kernel
theorem dX9_appeal_69 : decode cX9_appeal 69 = .ok (.baload, 1) := by decide +kernel
theorem dX9_appeal_70 : decode cX9_appeal 70 = .ok (.ifCond .ne 7, 3) := by decide +kernel
theorem dX9_appeal_73 : decode cX9_appeal 73 = .ok (.iconst 1, 1) := by decide +kernel
theorem dX9_appeal_74 : decode cX9_appeal 74 = .ok (.goto 4, 3) := by decide +kernel
theorem dX9_appeal_77 : decode cX9_appeal 77 = .ok (.iconst 0, 1) := by decide +kernel
theorem dX9_appeal_78 : decode cX9_appeal 78 = .ok (.istore_n 2, 1) := by decide +kernel
theorem dX9_appeal_79 : decode cX9_appeal 79 = .ok (.aload_n 0, 1) := by decide +kernel
theorem dX9_appeal_80 : decode cX9_appeal 80 = .ok (.iload_n 2, 1) := by decide +kernel
theorem dX9_appeal_81 : decode cX9_appeal 81 = .ok (.ifCond .eq 7, 3) := by decide +kernel
theorem dX9_appeal_84 : decode cX9_appeal 84 = .ok (.iconst 0, 1) := by decide +kernel
theorem dX9_appeal_85 : decode cX9_appeal 85 = .ok (.goto 4, 3) := by decide +kernel
theorem dX9_appeal_88 : decode cX9_appeal 88 = .ok (.iconst 2, 1) := by decide +kernel
theorem dX9_appeal_89 : decode cX9_appeal 89 = .ok (.putfield 93, 3) := by decide +kernel
theorem dX9_appeal_92 : decode cX9_appeal 92 = .ok (.aload_n 0, 1) := by decide +kernel
theorem dX9_appeal_93 : decode cX9_appeal 93 = .ok (.getfield 93, 3) := by decide +kernel
theorem dX9_appeal_96 : decode cX9_appeal 96 = .ok (.ifCond .le 5, 3) := by decide +kernel
theorem dX9_appeal_99 : decode cX9_appeal 99 = .ok (.iconst 0, 1) := by decide +kernel
theorem dX9_appeal_100 : decode cX9_appeal 100 = .ok (.ireturn, 1) := by decide +kernel
theorem dX9_appeal_101 : decode cX9_appeal 101 = .ok (.aload_n 0, 1) := by decide +kernel
theorem dX9_appeal_102 : decode cX9_appeal 102 = .ok (.getfield 71, 3) := by decide +kernel
theorem dX9_appeal_105 : decode cX9_appeal 105 = .ok (.iload_n 1, 1) := by decide +kernel
theorem dX9_appeal_106 : decode cX9_appeal 106 = .ok (.iconst 0, 1) := by decide +kernel
theorem dX9_appeal_107 : decode cX9_appeal 107 = .ok (.iastore, 1) := by decide +kernel
theorem dX9_appeal_108 : decode cX9_appeal 108 = .ok (.aload_n 0, 1) := by decide +kernel
theorem dX9_appeal_109 : decode cX9_appeal 109 = .ok (.getfield 77, 3) := by decide +kernel
theorem dX9_appeal_112 : decode cX9_appeal 112 = .ok (.iload_n 1, 1) := by decide +kernel
theorem dX9_appeal_113 : decode cX9_appeal 113 = .ok (.iconst 1, 1) := by decide +kernel
theorem dX9_appeal_114 : decode cX9_appeal 114 = .ok (.bastore, 1) := by decide +kernel
theorem dX9_appeal_115 : decode cX9_appeal 115 = .ok (.aload_n 0, 1) := by decide +kernel
theorem dX9_appeal_116 : decode cX9_appeal 116 = .ok (.aload_n 0, 1) := by decide +kernel
theorem dX9_appeal_117 : decode cX9_appeal 117 = .ok (.getfield 62, 3) := by decide +kernel
theorem dX9_appeal_120 : decode cX9_appeal 120 = .ok (.iload_n 1, 1) := by decide +kernel
theorem dX9_appeal_121 : decode cX9_appeal 121 = .ok (.iaload, 1) := by decide +kernel
theorem dX9_appeal_122 : decode cX9_appeal 122 = .ok (.invokevirtual 151, 3) := by decide +kernel
theorem dX9_appeal_125 : decode cX9_appeal 125 = .ok (.ireturn, 1) := by decide +kernel
set_option maxRecDepth 20000 in
theorem ggX9_stateOf_X9_isComplaint : GoodIn wsX9_stateOf wsX9_isComplaint := goodIn_r _ [7, 8, 9, 10, 6, 11, 12, 13, 14, 15, 16, 17, 18, 19, 20, 21, 22, 23, 24, 25, 26, 27, 28, 29, 30, 31, 32, 33, 34, 35, 36, 37, 38, 39, 40, 41, 42, 43, 44, 45, 46] (by decide +kernel) (by decide +kernel)
set_option maxRecDepth 20000 in
theorem gX9_stateOf_X9_isComplaint : GoodIn wsX9_stateOf (wsV RX9 192 RX9 yX9_isComplaint wsX9_isComplaint) := goodIn_app (goodIn_of _ (by decide +kernel)) ggX9_stateOf_X9_isComplaint
theorem dX9_stateOf_0 : decode cX9_stateOf 0 = .ok (.aload_n 0, 1) := by decide +kernel
theorem dX9_stateOf_1 : decode cX9_stateOf 1 = .ok (.aload_n 0, 1) := by decide +kernel
theorem dX9_stateOf_2 : decode cX9_stateOf 2 = .ok (.iload_n 1, 1) := by decide +kernel
theorem dX9_stateOf_3 : decode cX9_stateOf 3 = .ok (.invokevirtual 192, 3) := by decide +kernel
theorem dX9_stateOf_6 : decode cX9_stateOf 6 = .ok (.ifCond .eq 7, 3) := by decide +kernel
theorem dX9_stateOf_9 : decode cX9_stateOf 9 = .ok (.iconst 0, 1) := by decide +kernel
theorem dX9_stateOf_10 : decode cX9_stateOf 10 = .ok (.goto 4, 3) := by decide +kernel
theorem dX9_stateOf_13 : decode cX9_stateOf 13 = .ok (.iconst 1, 1) := by decide +kernel
theorem dX9_stateOf_14 : decode cX9_stateOf 14 = .ok (.putfield 93, 3) := by decide +kernel
theorem dX9_stateOf_17 : decode cX9_stateOf 17 = .ok (.aload_n 0, 1) := by decide +kernel
theorem dX9_stateOf_18 : decode cX9_stateOf 18 = .ok (.getfield 93, 3) := by decide +kernel
theorem dX9_stateOf_21 : decode cX9_stateOf 21 = .ok (.ifCond .le 7, 3) := by decide +kernel
theorem dX9_stateOf_24 : decode cX9_stateOf 24 = .ok (.iconst 0, 1) := by decide +kernel
theorem dX9_stateOf_25 : decode cX9_stateOf 25 = .ok (.goto 9, 3) := by decide +kernel
theorem dX9_stateOf_28 : decode cX9_stateOf 28 = .ok (.aload_n 0, 1) := by decide +kernel
theorem dX9_stateOf_29 : decode cX9_stateOf 29 = .ok (.getfield 71, 3) := by decide +kernel
theorem dX9_stateOf_32 : decode cX9_stateOf 32 = .ok (.iload_n 1, 1) := by decide +kernel
theorem dX9_stateOf_33 : decode cX9_stateOf 33 = .ok (.iaload, 1) := by decide +kernel
theorem dX9_stateOf_34 : decode cX9_stateOf 34 = .ok (.ireturn, 1) := by decide +kernel
set_option maxRecDepth 20000 in
theorem ggX9_sign_X9_in : GoodIn wsX9_sign wsX9_in := goodIn_r _ [9] (by decide +kernel) (by decide +kernel)
set_option maxRecDepth 20000 in
theorem gX9_sign_X9_in : GoodIn wsX9_sign (va_wsS RX9 97 yX9_in wsX9_in) := goodIn_app (goodIn_of _ (by decide +kernel)) ggX9_sign_X9_in
set_option maxRecDepth 20000 in
theorem ggX9_sign_X9_isFinalNow : GoodIn wsX9_sign wsX9_isFinalNow := goodIn_r _ [13, 14, 15, 16, 17, 18, 8, 19, 20, 21, 22, 23, 24, 25, 26, 27, 28, 29, 30, 31, 32, 33, 34, 35, 36, 37, 38, 39, 40, 41, 42, 43, 44, 45, 46, 47, 48, 49, 50, 51, 52, 53, 54, 55, 56, 57, 58, 59, 60, 61, 62, 63, 64] (by decide +kernel) (by decide +kernel)
set_option maxRecDepth 20000 in
theorem gX9_sign_X9_isFinalNow : GoodIn wsX9_sign (wsV RX9 160 RX9 yX9_isFinalNow wsX9_isFinalNow) := goodIn_app (goodIn_of _ (by decide +kernel)) ggX9_sign_X9_isFinalNow
theorem dX9_sign_0 : decode cX9_sign 0 = .ok (.aload_n 0, 1) := by decide +kernel
theorem dX9_sign_1 : decode cX9_sign 1 = .ok (.iload_n 1, 1) := by decide +kernel
theorem dX9_sign_2 : decode cX9_sign 2 = .ok (.iconst 0, 1) := by decide +kernel
theorem dX9_sign_3 : decode cX9_sign 3 = .ok (.aload_n 0, 1) := by decide +kernel
theorem dX9_sign_4 : decode cX9_sign 4 = .ok (.getfield 157, 3) := by decide +kernel
theorem dX9_sign_7 : decode cX9_sign 7 = .ok (.iconst 1, 1) := by decide +kernel
theorem dX9_sign_8 : decode cX9_sign 8 = .ok (.isub, 1) := by decide +kernel
theorem dX9_sign_9 : decode cX9_sign 9 = .ok (.invokestatic 97, 3) := by decide +kernel
theorem dX9_sign_12 : decode cX9_sign 12 = .ok (.ifCond .ne 7, 3) := by decide +kernel
theorem dX9_sign_15 : decode cX9_sign 15 = .ok (.iconst 1, 1) := by decide +kernel
theorem dX9_sign_16 : decode cX9_sign 16 = .ok (.goto 25, 3) := by decide +kernel
theorem dX9_sign_19 : decode cX9_sign 19 = .ok (.aload_n 0, 1) := by decide +kernel
theorem dX9_sign_20 : decode cX9_sign 20 = .ok (.iload_n 1, 1) := by decide +kernel
theorem dX9_sign_21 : decode cX9_sign 21 = .ok (.invokevirtual 160, 3) := by decide +kernel
theorem dX9_sign_24 : decode cX9_sign 24 = .ok (.ifCond .eq 12, 3) := by decide +kernel
theorem dX9_sign_27 : decode cX9_sign 27 = .ok (.aload_n 0, 1) := by decide +kernel
theorem dX9_sign_28 : decode cX9_sign 28 = .ok (.getfield 59, 3) := by decide +kernel
theorem dX9_sign_31 : decode cX9_sign 31 = .ok (.iload_n 1, 1) := by decide +kernel
theorem dX9_sign_32 : decode cX9_sign 32 = .ok (.iaload, 1) := by decide +kernel
theorem dX9_sign_33 : decode cX9_sign 33 = .ok (.ifCond .le 7, 3) := by decide +kernel
theorem dX9_sign_36 : decode cX9_sign 36 = .ok (.iconst 2, 1) := by decide +kernel
theorem dX9_sign_37 : decode cX9_sign 37 = .ok (.goto 4, 3) := by decide +kernel
theorem dX9_sign_40 : decode cX9_sign 40 = .ok (.iconst 0, 1) := by decide +kernel
theorem dX9_sign_41 : decode cX9_sign 41 = .ok (.putfield 93, 3) := by decide +kernel
theorem dX9_sign_44 : decode cX9_sign 44 = .ok (.aload_n 0, 1) := by decide +kernel
theorem dX9_sign_45 : decode cX9_sign 45 = .ok (.getfield 93, 3) := by decide +kernel
theorem dX9_sign_48 : decode cX9_sign 48 = .ok (.ifCond .le 5, 3) := by decide +kernel
theorem dX9_sign_51 : decode cX9_sign 51 = .ok (.iconst 0, 1) := by decide +kernel
theorem dX9_sign_52 : decode cX9_sign 52 = .ok (.ireturn, 1) := by decide +kernel
theorem dX9_sign_53 : decode cX9_sign 53 = .ok (.aload_n 0, 1) := by decide +kernel
theorem dX9_sign_54 : decode cX9_sign 54 = .ok (.getfield 80, 3) := by decide +kernel
theorem dX9_sign_57 : decode cX9_sign 57 = .ok (.aload_n 0, 1) := by decide +kernel
theorem dX9_sign_58 : decode cX9_sign 58 = .ok (.getfield 198, 3) := by decide +kernel
theorem dX9_sign_61 : decode cX9_sign 61 = .ok (.iload_n 1, 1) := by decide +kernel
theorem dX9_sign_62 : decode cX9_sign 62 = .ok (.iastore, 1) := by decide +kernel
theorem dX9_sign_63 : decode cX9_sign 63 = .ok (.aload_n 0, 1) := by decide +kernel
theorem dX9_sign_64 : decode cX9_sign 64 = .ok (.dup, 1) := by decide +kernel
theorem dX9_sign_65 : decode cX9_sign 65 = .ok (.getfield 198, 3) := by decide +kernel
theorem dX9_sign_68 : decode cX9_sign 68 = .ok (.iconst 1, 1) := by decide +kernel
theorem dX9_sign_69 : decode cX9_sign 69 = .ok (.iadd, 1) := by decide +kernel
theorem dX9_sign_70 : decode cX9_sign 70 = .ok (.putfield 198, 3) := by decide +kernel
theorem dX9_sign_73 : decode cX9_sign 73 = .ok (.aload_n 0, 1) := by decide +kernel
theorem dX9_sign_74 : decode cX9_sign 74 = .ok (.getfield 59, 3) := by decide +kernel
theorem dX9_sign_77 : decode cX9_sign 77 = .ok (.iload_n 1, 1) := by decide +kernel
theorem dX9_sign_78 : decode cX9_sign 78 = .ok (.aload_n 0, 1) := by decide +kernel
theorem dX9_sign_79 : decode cX9_sign 79 = .ok (.getfield 198, 3) := by decide +kernel
theorem dX9_sign_82 : decode cX9_sign 82 = .ok (.iastore, 1) := by decide +kernel
theorem dX9_sign_83 : decode cX9_sign 83 = .ok (.aload_n 0, 1) := by decide +kernel
theorem dX9_sign_84 : decode cX9_sign 84 = .ok (.getfield 198, 3) := by decide +kernel
theorem dX9_sign_87 : decode cX9_sign 87 = .ok (.iconst 1, 1) := by decide +kernel
theorem dX9_sign_88 : decode cX9_sign 88 = .ok (.isub, 1) := by decide +kernel
theorem dX9_sign_89 : decode cX9_sign 89 = .ok (.ireturn, 1) := by decide +kernel
set_option maxRecDepth 20000 in
theorem ggX9_isContract_X9_in : GoodIn wsX9_isContract wsX9_in := goodIn_r _ [5] (by decide +kernel) (by decide +kernel)
set_option maxRecDepth 20000 in
theorem gX9_isContract_X9_in : GoodIn wsX9_isContract (va_wsS RX9 97 yX9_in wsX9_in) := goodIn_app (goodIn_of _ (by decide +kernel)) ggX9_isContract_X9_in
theorem dX9_isContract_0 : decode cX9_isContract 0 = .ok (.iload_n 1, 1) := by decide +kernel
theorem dX9_isContract_1 : decode cX9_isContract 1 = .ok (.iconst 0, 1) := by decide +kernel
theorem dX9_isContract_2 : decode cX9_isContract 2 = .ok (.aload_n 0, 1) := by decide +kernel
theorem dX9_isContract_3 : decode cX9_isContract 3 = .ok (.getfield 198, 3) := by decide +kernel
theorem dX9_isContract_6 : decode cX9_isContract 6 = .ok (.iconst 1, 1) := by decide +kernel
theorem dX9_isContract_7 : decode cX9_isContract 7 = .ok (.isub, 1) := by decide +kernel
theorem dX9_isContract_8 : decode cX9_isContract 8 = .ok (.invokestatic 97, 3) := by decide +kernel
theorem dX9_isContract_11 : decode cX9_isContract 11 = .ok (.ireturn, 1) := by decide +kernel
set_option maxRecDepth 20000 in
theorem ggX9_runs_X9_openOnes : GoodIn wsX9_runs wsX9_openOnes := goodIn_r _ [7, 8, 9, 10, 11, 12, 13, 14, 15, 16, 17, 18, 19, 20, 21, 22, 23, 24, 25, 26, 27, 28, 29, 30, 31, 32, 33, 34, 35, 36, 37, 38, 39, 40, 41, 42, 43, 44, 45] (by decide +kernel) (by decide +kernel)
set_option maxRecDepth 20000 in
theorem gX9_runs_X9_openOnes : GoodIn wsX9_runs (wsV RX9 151 RX9 yX9_openOnes wsX9_openOnes) := goodIn_app (goodIn_of _ (by decide +kernel)) ggX9_runs_X9_openOnes
theorem dX9_runs_0 : decode cX9_runs 0 = .ok (.aload_n 0, 1) := by decide +kernel
theorem dX9_runs_1 : decode cX9_runs 1 = .ok (.getfield 56, 3) := by decide +kernel
theorem dX9_runs_4 : decode cX9_runs 4 = .ok (.aload_n 0, 1) := by decide +kernel
theorem dX9_runs_5 : decode cX9_runs 5 = .ok (.getfield 80, 3) := by decide +kernel
theorem dX9_runs_8 : decode cX9_runs 8 = .ok (.iload_n 1, 1) := by decide +kernel
theorem dX9_runs_9 : decode cX9_runs 9 = .ok (.iaload, 1) := by decide +kernel
theorem dX9_runs_10 : decode cX9_runs 10 = .ok (.baload, 1) := by decide +kernel
theorem dX9_runs_11 : decode cX9_runs 11 = .ok (.ifCond .eq 7, 3) := by decide +kernel
theorem dX9_runs_14 : decode cX9_runs 14 = .ok (.iconst 0, 1) := by decide +kernel
theorem dX9_runs_15 : decode cX9_runs 15 = .ok (.goto 21, 3) := by decide +kernel
theorem dX9_runs_18 : decode cX9_runs 18 = .ok (.aload_n 0, 1) := by decide +kernel
theorem dX9_runs_19 : decode cX9_runs 19 = .ok (.aload_n 0, 1) := by decide +kernel
theorem dX9_runs_20 : decode cX9_runs 20 = .ok (.getfield 80, 3) := by decide +kernel
theorem dX9_runs_23 : decode cX9_runs 23 = .ok (.iload_n 1, 1) := by decide +kernel
theorem dX9_runs_24 : decode cX9_runs 24 = .ok (.iaload, 1) := by decide +kernel
theorem dX9_runs_25 : decode cX9_runs 25 = .ok (.invokevirtual 151, 3) := by decide +kernel
theorem dX9_runs_28 : decode cX9_runs 28 = .ok (.ifCond .le 7, 3) := by decide +kernel
theorem dX9_runs_31 : decode cX9_runs 31 = .ok (.iconst 1, 1) := by decide +kernel
theorem dX9_runs_32 : decode cX9_runs 32 = .ok (.goto 4, 3) := by decide +kernel
theorem dX9_runs_35 : decode cX9_runs 35 = .ok (.iconst 2, 1) := by decide +kernel
theorem dX9_runs_36 : decode cX9_runs 36 = .ok (.ireturn, 1) := by decide +kernel
theorem dX9_priceOf_0 : decode cX9_priceOf 0 = .ok (.aload_n 0, 1) := by decide +kernel
theorem dX9_priceOf_1 : decode cX9_priceOf 1 = .ok (.getfield 31, 3) := by decide +kernel
theorem dX9_priceOf_4 : decode cX9_priceOf 4 = .ok (.bipush 8, 2) := by decide +kernel
theorem dX9_priceOf_6 : decode cX9_priceOf 6 = .ok (.aload_n 0, 1) := by decide +kernel
theorem dX9_priceOf_7 : decode cX9_priceOf 7 = .ok (.getfield 47, 3) := by decide +kernel
theorem dX9_priceOf_10 : decode cX9_priceOf 10 = .ok (.aload_n 0, 1) := by decide +kernel
theorem dX9_priceOf_11 : decode cX9_priceOf 11 = .ok (.getfield 80, 3) := by decide +kernel
theorem dX9_priceOf_14 : decode cX9_priceOf 14 = .ok (.iload_n 1, 1) := by decide +kernel
theorem dX9_priceOf_15 : decode cX9_priceOf 15 = .ok (.iaload, 1) := by decide +kernel
theorem dX9_priceOf_16 : decode cX9_priceOf 16 = .ok (.iaload, 1) := by decide +kernel
theorem dX9_priceOf_17 : decode cX9_priceOf 17 = .ok (.imul, 1) := by decide +kernel
theorem dX9_priceOf_18 : decode cX9_priceOf 18 = .ok (.aload_n 0, 1) := by decide +kernel
theorem dX9_priceOf_19 : decode cX9_priceOf 19 = .ok (.getfield 50, 3) := by decide +kernel
theorem dX9_priceOf_22 : decode cX9_priceOf 22 = .ok (.aload_n 0, 1) := by decide +kernel
theorem dX9_priceOf_23 : decode cX9_priceOf 23 = .ok (.getfield 80, 3) := by decide +kernel
theorem dX9_priceOf_26 : decode cX9_priceOf 26 = .ok (.iload_n 1, 1) := by decide +kernel
theorem dX9_priceOf_27 : decode cX9_priceOf 27 = .ok (.iaload, 1) := by decide +kernel
theorem dX9_priceOf_28 : decode cX9_priceOf 28 = .ok (.iaload, 1) := by decide +kernel
theorem dX9_priceOf_29 : decode cX9_priceOf 29 = .ok (.iadd, 1) := by decide +kernel
theorem dX9_priceOf_30 : decode cX9_priceOf 30 = .ok (.iaload, 1) := by decide +kernel
theorem dX9_priceOf_31 : decode cX9_priceOf 31 = .ok (.ireturn, 1) := by decide +kernel
set_option maxRecDepth 20000 in
theorem ggX9_call_X9_isContract : GoodIn wsX9_call wsX9_isContract := goodIn_r _ [8, 9, 10, 11, 7, 12, 33, 34, 35, 36, 37, 38, 39, 40, 41, 42, 43, 44, 45, 46, 47, 48, 49, 50, 51, 52, 53, 54, 55, 56, 57, 58, 59, 60, 61, 62, 63, 64, 65, 66, 67] (by decide +kernel) (by decide +kernel)
set_option maxRecDepth 20000 in
theorem gX9_call_X9_isContract : GoodIn wsX9_call (wsV RX9 201 RX9 yX9_isContract wsX9_isContract) := goodIn_app (goodIn_of _ (by decide +kernel)) ggX9_call_X9_isContract
set_option maxRecDepth 20000 in
theorem ggX9_call_X9_in : GoodIn wsX9_call wsX9_in := goodIn_r _ [12] (by decide +kernel) (by decide +kernel)
set_option maxRecDepth 20000 in
theorem gX9_call_X9_in : GoodIn wsX9_call (va_wsS RX9 97 yX9_in wsX9_in) := goodIn_app (goodIn_of _ (by decide +kernel)) ggX9_call_X9_in
set_option maxRecDepth 20000 in
theorem ggX9_call_X9_runs : GoodIn wsX9_call wsX9_runs := goodIn_r _ [16, 17, 18, 19, 20, 21, 7, 22, 23, 24, 25, 33, 34, 35, 36, 37, 38, 39, 40, 41, 42, 43, 44, 45, 46, 47, 48, 49, 50, 51, 52, 53, 54, 55, 56, 57, 58, 59, 60, 61, 62, 63, 64, 65, 66, 67] (by decide +kernel) (by decide +kernel)
set_option maxRecDepth 20000 in
theorem gX9_call_X9_runs : GoodIn wsX9_call (wsV RX9 204 RX9 yX9_runs wsX9_runs) := goodIn_app (goodIn_of _ (by decide +kernel)) ggX9_call_X9_runs
set_option maxRecDepth 20000 in
theorem ggX9_call_X9_priceOf : GoodIn wsX9_call wsX9_priceOf := goodIn_r _ [29, 30, 31, 18, 32, 33, 34, 35, 36, 37, 38, 39, 40, 41, 42, 43, 44, 45, 46, 47, 48, 49, 50, 51, 52, 53, 54, 55, 56, 57, 58, 59, 60, 61, 62, 63, 64, 65, 66, 67] (by decide +kernel) (by decide +kernel)
set_option maxRecDepth 20000 in
theorem gX9_call_X9_priceOf : GoodIn wsX9_call (wsV RX9 207 RX9 yX9_priceOf wsX9_priceOf) := goodIn_app (goodIn_of _ (by decide +kernel)) ggX9_call_X9_priceOf
theorem dX9_call_0 : decode cX9_call 0 = .ok (.aload_n 0, 1) := by decide +kernel
theorem dX9_call_1 : decode cX9_call 1 = .ok (.aload_n 0, 1) := by decide +kernel
theorem dX9_call_2 : decode cX9_call 2 = .ok (.iload_n 1, 1) := by decide +kernel
theorem dX9_call_3 : decode cX9_call 3 = .ok (.invokevirtual 201, 3) := by decide +kernel
theorem dX9_call_6 : decode cX9_call 6 = .ok (.ifCond .ne 7, 3) := by decide +kernel
theorem dX9_call_9 : decode cX9_call 9 = .ok (.iconst 1, 1) := by decide +kernel
theorem dX9_call_10 : decode cX9_call 10 = .ok (.goto 47, 3) := by decide +kernel
theorem dX9_call_13 : decode cX9_call 13 = .ok (.iload_n 2, 1) := by decide +kernel
theorem dX9_call_14 : decode cX9_call 14 = .ok (.iconst 1, 1) := by decide +kernel
theorem dX9_call_15 : decode cX9_call 15 = .ok (.ldc 117, 2) := by decide +kernel
theorem dX9_call_17 : decode cX9_call 17 = .ok (.invokestatic 97, 3) := by decide +kernel
theorem dX9_call_20 : decode cX9_call 20 = .ok (.ifCond .ne 7, 3) := by decide +kernel
theorem dX9_call_23 : decode cX9_call 23 = .ok (.iconst 2, 1) := by decide +kernel
theorem dX9_call_24 : decode cX9_call 24 = .ok (.goto 33, 3) := by decide +kernel
theorem dX9_call_27 : decode cX9_call 27 = .ok (.aload_n 0, 1) := by decide +kernel
theorem dX9_call_28 : decode cX9_call 28 = .ok (.iload_n 1, 1) := by decide +kernel
theorem dX9_call_29 : decode cX9_call 29 = .ok (.invokevirtual 204, 3) := by decide +kernel
theorem dX9_call_32 : decode cX9_call 32 = .ok (.iconst 2, 1) := by decide +kernel
theorem dX9_call_33 : decode cX9_call 33 = .ok (.if_icmp .lt 19, 3) := by decide +kernel
theorem dX9_call_36 : decode cX9_call 36 = .ok (.aload_n 0, 1) := by decide +kernel
theorem dX9_call_37 : decode cX9_call 37 = .ok (.getfield 83, 3) := by decide +kernel
theorem dX9_call_40 : decode cX9_call 40 = .ok (.iload_n 1, 1) := by decide +kernel
theorem dX9_call_41 : decode cX9_call 41 = .ok (.iaload, 1) := by decide +kernel
theorem dX9_call_42 : decode cX9_call 42 = .ok (.iload_n 2, 1) := by decide +kernel
theorem dX9_call_43 : decode cX9_call 43 = .ok (.iadd, 1) := by decide +kernel
theorem dX9_call_44 : decode cX9_call 44 = .ok (.aload_n 0, 1) := by decide +kernel
theorem dX9_call_45 : decode cX9_call 45 = .ok (.iload_n 1, 1) := by decide +kernel
theorem dX9_call_46 : decode cX9_call 46 = .ok (.invokevirtual 207, 3) := by decide +kernel
theorem dX9_call_49 : decode cX9_call 49 = .ok (.if_icmp .le 7, 3) := by decide +kernel
theorem dX9_call_52 : decode cX9_call 52 = .ok (.iconst 3, 1) := by decide +kernel
theorem dX9_call_53 : decode cX9_call 53 = .ok (.goto 4, 3) := by decide +kernel
theorem dX9_call_56 : decode cX9_call 56 = .ok (.iconst 0, 1) := by decide +kernel
theorem dX9_call_57 : decode cX9_call 57 = .ok (.putfield 93, 3) := by decide +kernel
theorem dX9_call_60 : decode cX9_call 60 = .ok (.aload_n 0, 1) := by decide +kernel
theorem dX9_call_61 : decode cX9_call 61 = .ok (.getfield 93, 3) := by decide +kernel
theorem dX9_call_64 : decode cX9_call 64 = .ok (.ifCond .le 5, 3) := by decide +kernel
theorem dX9_call_67 : decode cX9_call 67 = .ok (.iconst 0, 1) := by decide +kernel
theorem dX9_call_68 : decode cX9_call 68 = .ok (.ireturn, 1) := by decide +kernel
theorem dX9_call_69 : decode cX9_call 69 = .ok (.aload_n 0, 1) := by decide +kernel
theorem dX9_call_70 : decode cX9_call 70 = .ok (.getfield 83, 3) := by decide +kernel
theorem dX9_call_73 : decode cX9_call 73 = .ok (.iload_n 1, 1) := by decide +kernel
theorem dX9_call_74 : decode cX9_call 74 = .ok (.dup2, 1) := by decide +kernel
theorem dX9_call_75 : decode cX9_call 75 = .ok (.iaload, 1) := by decide +kernel
theorem dX9_call_76 : decode cX9_call 76 = .ok (.iload_n 2, 1) := by decide +kernel
theorem dX9_call_77 : decode cX9_call 77 = .ok (.iadd, 1) := by decide +kernel
theorem dX9_call_78 : decode cX9_call 78 = .ok (.iastore, 1) := by decide +kernel
theorem dX9_call_79 : decode cX9_call 79 = .ok (.aload_n 0, 1) := by decide +kernel
theorem dX9_call_80 : decode cX9_call 80 = .ok (.getfield 83, 3) := by decide +kernel
theorem dX9_call_83 : decode cX9_call 83 = .ok (.iload_n 1, 1) := by decide +kernel
theorem dX9_call_84 : decode cX9_call 84 = .ok (.iaload, 1) := by decide +kernel
theorem dX9_call_85 : decode cX9_call 85 = .ok (.ireturn, 1) := by decide +kernel
set_option maxRecDepth 20000 in
theorem ggX9_running_X9_isContract : GoodIn wsX9_running wsX9_isContract := goodIn_r _ [6, 7, 8, 9, 5, 10, 24, 25, 26, 27, 28, 29, 30, 31, 32, 33, 34, 35, 36, 37, 38, 39, 40, 41, 42, 43, 44, 45, 46, 47, 48, 49, 50, 51, 52, 53, 54, 55, 56, 57, 58] (by decide +kernel) (by decide +kernel)
set_option maxRecDepth 20000 in
theorem gX9_running_X9_isContract : GoodIn wsX9_running (wsV RX9 201 RX9 yX9_isContract wsX9_isContract) := goodIn_app (goodIn_of _ (by decide +kernel)) ggX9_running_X9_isContract
set_option maxRecDepth 20000 in
theorem ggX9_running_X9_runs : GoodIn wsX9_running wsX9_runs := goodIn_r _ [14, 15, 16, 17, 18, 19, 5, 20, 21, 22, 23, 24, 25, 26, 27, 28, 29, 30, 31, 32, 33, 34, 35, 36, 37, 38, 39, 40, 41, 42, 43, 44, 45, 46, 47, 48, 49, 50, 51, 52, 53, 54, 55, 56, 57, 58] (by decide +kernel) (by decide +kernel)
set_option maxRecDepth 20000 in
theorem gX9_running_X9_runs : GoodIn wsX9_running (wsV RX9 204 RX9 yX9_runs wsX9_runs) := goodIn_app (goodIn_of _ (by decide +kernel)) ggX9_running_X9_runs
theorem dX9_running_0 : decode cX9_running 0 = .ok (.aload_n 0, 1) := by decide +kernel
theorem dX9_running_1 : decode cX9_running 1 = .ok (.aload_n 0, 1) := by decide +kernel
theorem dX9_running_2 : decode cX9_running 2 = .ok (.iload_n 1, 1) := by decide +kernel
theorem dX9_running_3 : decode cX9_running 3 = .ok (.invokevirtual 201, 3) := by decide +kernel
theorem dX9_running_6 : decode cX9_running 6 = .ok (.ifCond .eq 7, 3) := by decide +kernel
theorem dX9_running_9 : decode cX9_running 9 = .ok (.iconst 0, 1) := by decide +kernel
theorem dX9_running_10 : decode cX9_running 10 = .ok (.goto 4, 3) := by decide +kernel
theorem dX9_running_13 : decode cX9_running 13 = .ok (.iconst 1, 1) := by decide +kernel
theorem dX9_running_14 : decode cX9_running 14 = .ok (.putfield 93, 3) := by decide +kernel
theorem dX9_running_17 : decode cX9_running 17 = .ok (.aload_n 0, 1) := by decide +kernel
theorem dX9_running_18 : decode cX9_running 18 = .ok (.getfield 93, 3) := by decide +kernel
theorem dX9_running_21 : decode cX9_running 21 = .ok (.ifCond .le 7, 3) := by decide +kernel
theorem dX9_running_24 : decode cX9_running 24 = .ok (.iconst 0, 1) := by decide +kernel
theorem dX9_running_25 : decode cX9_running 25 = .ok (.goto 8, 3) := by decide +kernel
theorem dX9_running_28 : decode cX9_running 28 = .ok (.aload_n 0, 1) := by decide +kernel
theorem dX9_running_29 : decode cX9_running 29 = .ok (.iload_n 1, 1) := by decide +kernel
theorem dX9_running_30 : decode cX9_running 30 = .ok (.invokevirtual 204, 3) := by decide +kernel
theorem dX9_running_33 : decode cX9_running 33 = .ok (.ireturn, 1) := by decide +kernel
set_option maxRecDepth 20000 in
theorem ggX9_owes_X9_isBidder : GoodIn wsX9_owes wsX9_isBidder := goodIn_r _ [9, 10, 11, 8, 12] (by decide +kernel) (by decide +kernel)
set_option maxRecDepth 20000 in
theorem gX9_owes_X9_isBidder : GoodIn wsX9_owes (va_wsS RX9 114 yX9_isBidder wsX9_isBidder) := goodIn_app (goodIn_of _ (by decide +kernel)) ggX9_owes_X9_isBidder
set_option maxRecDepth 20000 in
theorem ggX9_owes_X9_runs : GoodIn wsX9_owes wsX9_runs := goodIn_r _ [16, 17, 4, 18, 19, 20, 8, 21, 22, 23, 24, 25, 26, 27, 28, 29, 30, 31, 32, 33, 34, 35, 36, 37, 38, 39, 40, 41, 42, 43, 44, 45, 46, 47, 48, 49, 50, 51, 52, 53, 54, 55, 56, 57, 58, 59] (by decide +kernel) (by decide +kernel)
set_option maxRecDepth 20000 in
theorem gX9_owes_X9_runs : GoodIn wsX9_owes (wsV RX9 204 RX9 yX9_runs wsX9_runs) := goodIn_app (goodIn_of _ (by decide +kernel)) ggX9_owes_X9_runs
theorem dX9_owes_0 : decode cX9_owes 0 = .ok (.aload_n 0, 1) := by decide +kernel
theorem dX9_owes_1 : decode cX9_owes 1 = .ok (.iload_n 1, 1) := by decide +kernel
theorem dX9_owes_2 : decode cX9_owes 2 = .ok (.invokestatic 114, 3) := by decide +kernel
theorem dX9_owes_5 : decode cX9_owes 5 = .ok (.ifCond .eq 7, 3) := by decide +kernel
theorem dX9_owes_8 : decode cX9_owes 8 = .ok (.iconst 0, 1) := by decide +kernel
theorem dX9_owes_9 : decode cX9_owes 9 = .ok (.goto 4, 3) := by decide +kernel
theorem dX9_owes_12 : decode cX9_owes 12 = .ok (.iconst 1, 1) := by decide +kernel
theorem dX9_owes_13 : decode cX9_owes 13 = .ok (.putfield 93, 3) := by decide +kernel
theorem dX9_owes_16 : decode cX9_owes 16 = .ok (.iconst 0, 1) := by decide +kernel
theorem dX9_owes_17 : decode cX9_owes 17 = .ok (.istore_n 2, 1) := by decide +kernel
theorem dX9_owes_18 : decode cX9_owes 18 = .ok (.iconst 0, 1) := by decide +kernel
theorem dX9_owes_19 : decode cX9_owes 19 = .ok (.istore_n 3, 1) := by decide +kernel
theorem dX9_owes_20 : decode cX9_owes 20 = .ok (.iload_n 3, 1) := by decide +kernel
theorem dX9_owes_21 : decode cX9_owes 21 = .ok (.aload_n 0, 1) := by decide +kernel
theorem dX9_owes_22 : decode cX9_owes 22 = .ok (.getfield 198, 3) := by decide +kernel
theorem dX9_owes_25 : decode cX9_owes 25 = .ok (.if_icmp .ge 52, 3) := by decide +kernel
theorem dX9_owes_28 : decode cX9_owes 28 = .ok (.aload_n 0, 1) := by decide +kernel
theorem dX9_owes_29 : decode cX9_owes 29 = .ok (.getfield 93, 3) := by decide +kernel
theorem dX9_owes_32 : decode cX9_owes 32 = .ok (.ifCond .ne 45, 3) := by decide +kernel
theorem dX9_owes_35 : decode cX9_owes 35 = .ok (.iload_n 2, 1) := by decide +kernel
theorem dX9_owes_36 : decode cX9_owes 36 = .ok (.aload_n 0, 1) := by decide +kernel
theorem dX9_owes_37 : decode cX9_owes 37 = .ok (.getfield 50, 3) := by decide +kernel
theorem dX9_owes_40 : decode cX9_owes 40 = .ok (.aload_n 0, 1) := by decide +kernel
theorem dX9_owes_41 : decode cX9_owes 41 = .ok (.getfield 80, 3) := by decide +kernel
theorem dX9_owes_44 : decode cX9_owes 44 = .ok (.iload_n 3, 1) := by decide +kernel
theorem dX9_owes_45 : decode cX9_owes 45 = .ok (.iaload, 1) := by decide +kernel
theorem dX9_owes_46 : decode cX9_owes 46 = .ok (.iaload, 1) := by decide +kernel
theorem dX9_owes_47 : decode cX9_owes 47 = .ok (.iload_n 1, 1) := by decide +kernel
theorem dX9_owes_48 : decode cX9_owes 48 = .ok (.if_icmp .ne 20, 3) := by decide +kernel
theorem dX9_owes_51 : decode cX9_owes 51 = .ok (.aload_n 0, 1) := by decide +kernel
theorem dX9_owes_52 : decode cX9_owes 52 = .ok (.iload_n 3, 1) := by decide +kernel
theorem dX9_owes_53 : decode cX9_owes 53 = .ok (.invokevirtual 204, 3) := by decide +kernel
theorem dX9_owes_56 : decode cX9_owes 56 = .ok (.ifCond .ne 12, 3) := by decide +kernel
theorem dX9_owes_59 : decode cX9_owes 59 = .ok (.aload_n 0, 1) := by decide +kernel
theorem dX9_owes_60 : decode cX9_owes 60 = .ok (.getfield 83, 3) := by decide +kernel
theorem dX9_owes_63 : decode cX9_owes 63 = .ok (.iload_n 3, 1) := by decide +kernel
theorem dX9_owes_64 : decode cX9_owes 64 = .ok (.iaload, 1) := by decide +kernel
theorem dX9_owes_65 : decode cX9_owes 65 = .ok (.goto 4, 3) := by decide +kernel
theorem dX9_owes_68 : decode cX9_owes 68 = .ok (.iconst 0, 1) := by decide +kernel
theorem dX9_owes_69 : decode cX9_owes 69 = .ok (.iadd, 1) := by decide +kernel
theorem dX9_owes_70 : decode cX9_owes 70 = .ok (.istore_n 2, 1) := by decide +kernel
theorem dX9_owes_71 : decode cX9_owes 71 = .ok (.iinc 3 1, 3) := by decide +kernel
theorem dX9_owes_74 : decode cX9_owes 74 = .ok (.goto (-54), 3) := by decide +kernel
theorem dX9_owes_77 : decode cX9_owes 77 = .ok (.iload_n 2, 1) := by decide +kernel
theorem dX9_owes_78 : decode cX9_owes 78 = .ok (.ireturn, 1) := by decide +kernel
set_option maxRecDepth 20000 in
theorem ggX9_hasContract_X9_runs : GoodIn wsX9_hasContract wsX9_runs := goodIn_r _ [8, 9, 3, 10, 11, 12, 7, 13, 14, 15, 16, 17, 18, 19, 20, 21, 22, 23, 24, 25, 26, 27, 28, 29, 30, 31, 32, 33, 34, 35, 36, 37, 38, 39, 40, 41, 42, 43, 44, 45, 46, 47, 48, 49, 50, 51] (by decide +kernel) (by decide +kernel)
set_option maxRecDepth 20000 in
theorem gX9_hasContract_X9_runs : GoodIn wsX9_hasContract (wsV RX9 204 RX9 yX9_runs wsX9_runs) := goodIn_app (goodIn_of _ (by decide +kernel)) ggX9_hasContract_X9_runs
theorem dX9_hasContract_0 : decode cX9_hasContract 0 = .ok (.iconst 0, 1) := by decide +kernel
theorem dX9_hasContract_1 : decode cX9_hasContract 1 = .ok (.istore_n 2, 1) := by decide +kernel
theorem dX9_hasContract_2 : decode cX9_hasContract 2 = .ok (.iconst 0, 1) := by decide +kernel
theorem dX9_hasContract_3 : decode cX9_hasContract 3 = .ok (.istore_n 3, 1) := by decide +kernel
theorem dX9_hasContract_4 : decode cX9_hasContract 4 = .ok (.iload_n 3, 1) := by decide +kernel
theorem dX9_hasContract_5 : decode cX9_hasContract 5 = .ok (.aload_n 0, 1) := by decide +kernel
theorem dX9_hasContract_6 : decode cX9_hasContract 6 = .ok (.getfield 198, 3) := by decide +kernel
theorem dX9_hasContract_9 : decode cX9_hasContract 9 = .ok (.if_icmp .ge 42, 3) := by decide +kernel
theorem dX9_hasContract_12 : decode cX9_hasContract 12 = .ok (.iload_n 2, 1) := by decide +kernel
theorem dX9_hasContract_13 : decode cX9_hasContract 13 = .ok (.ifCond .ne 26, 3) := by decide +kernel
theorem dX9_hasContract_16 : decode cX9_hasContract 16 = .ok (.aload_n 0, 1) := by decide +kernel
theorem dX9_hasContract_17 : decode cX9_hasContract 17 = .ok (.getfield 47, 3) := by decide +kernel
theorem dX9_hasContract_20 : decode cX9_hasContract 20 = .ok (.aload_n 0, 1) := by decide +kernel
theorem dX9_hasContract_21 : decode cX9_hasContract 21 = .ok (.getfield 80, 3) := by decide +kernel
theorem dX9_hasContract_24 : decode cX9_hasContract 24 = .ok (.iload_n 3, 1) := by decide +kernel
theorem dX9_hasContract_25 : decode cX9_hasContract 25 = .ok (.iaload, 1) := by decide +kernel
theorem dX9_hasContract_26 : decode cX9_hasContract 26 = .ok (.iaload, 1) := by decide +kernel
theorem dX9_hasContract_27 : decode cX9_hasContract 27 = .ok (.iload_n 1, 1) := by decide +kernel
theorem dX9_hasContract_28 : decode cX9_hasContract 28 = .ok (.if_icmp .ne 15, 3) := by decide +kernel
theorem dX9_hasContract_31 : decode cX9_hasContract 31 = .ok (.aload_n 0, 1) := by decide +kernel
theorem dX9_hasContract_32 : decode cX9_hasContract 32 = .ok (.iload_n 3, 1) := by decide +kernel
theorem dX9_hasContract_33 : decode cX9_hasContract 33 = .ok (.invokevirtual 204, 3) := by decide +kernel
theorem dX9_hasContract_36 : decode cX9_hasContract 36 = .ok (.ifCond .le 7, 3) := by decide +kernel
theorem dX9_hasContract_39 : decode cX9_hasContract 39 = .ok (.iconst 1, 1) := by decide +kernel
theorem dX9_hasContract_40 : decode cX9_hasContract 40 = .ok (.goto 4, 3) := by decide +kernel
theorem dX9_hasContract_43 : decode cX9_hasContract 43 = .ok (.iconst 0, 1) := by decide +kernel
theorem dX9_hasContract_44 : decode cX9_hasContract 44 = .ok (.istore_n 2, 1) := by decide +kernel
theorem dX9_hasContract_45 : decode cX9_hasContract 45 = .ok (.iinc 3 1, 3) := by decide +kernel
theorem dX9_hasContract_48 : decode cX9_hasContract 48 = .ok (.goto (-44), 3) := by decide +kernel
theorem dX9_hasContract_51 : decode cX9_hasContract 51 = .ok (.iload_n 2, 1) := by decide +kernel
theorem dX9_hasContract_52 : decode cX9_hasContract 52 = .ok (.ireturn, 1) := by decide +kernel
set_option maxRecDepth 20000 in
theorem ggX9_held_X9_isBidder : GoodIn wsX9_held wsX9_isBidder := goodIn_r _ [10, 11, 12, 9, 13] (by decide +kernel) (by decide +kernel)
set_option maxRecDepth 20000 in
theorem gX9_held_X9_isBidder : GoodIn wsX9_held (va_wsS RX9 114 yX9_isBidder wsX9_isBidder) := goodIn_app (goodIn_of _ (by decide +kernel)) ggX9_held_X9_isBidder
set_option maxRecDepth 20000 in
theorem ggX9_held_X9_hasContract : GoodIn wsX9_held wsX9_hasContract := goodIn_r _ [17, 18, 19, 20, 21, 22, 23, 9, 24, 25, 26, 27, 28, 29, 30, 31, 32, 33, 34, 35, 36, 37, 38, 39, 40, 41, 42, 43, 44, 45, 46, 47, 48, 49, 50, 51, 52, 53, 54, 55, 56, 57, 58, 59, 60, 61, 62, 63, 64, 65, 66, 67] (by decide +kernel) (by decide +kernel)
set_option maxRecDepth 20000 in
theorem gX9_held_X9_hasContract : GoodIn wsX9_held (wsV RX9 210 RX9 yX9_hasContract wsX9_hasContract) := goodIn_app (goodIn_of _ (by decide +kernel)) ggX9_held_X9_hasContract
theorem dX9_held_0 : decode cX9_held 0 = .ok (.aload_n 0, 1) := by decide +kernel
theorem dX9_held_1 : decode cX9_held 1 = .ok (.iload_n 1, 1) := by decide +kernel
theorem dX9_held_2 : decode cX9_held 2 = .ok (.invokestatic 114, 3) := by decide +kernel
theorem dX9_held_5 : decode cX9_held 5 = .ok (.ifCond .eq 7, 3) := by decide +kernel
theorem dX9_held_8 : decode cX9_held 8 = .ok (.iconst 0, 1) := by decide +kernel
theorem dX9_held_9 : decode cX9_held 9 = .ok (.goto 4, 3) := by decide +kernel
theorem dX9_held_12 : decode cX9_held 12 = .ok (.iconst 1, 1) := by decide +kernel
theorem dX9_held_13 : decode cX9_held 13 = .ok (.putfield 93, 3) := by decide +kernel
theorem dX9_held_16 : decode cX9_held 16 = .ok (.iconst 0, 1) := by decide +kernel
theorem dX9_held_17 : decode cX9_held 17 = .ok (.istore_n 2, 1) := by decide +kernel
theorem dX9_held_18 : decode cX9_held 18 = .ok (.iconst 0, 1) := by decide +kernel
theorem dX9_held_19 : decode cX9_held 19 = .ok (.istore_n 3, 1) := by decide +kernel
theorem dX9_held_20 : decode cX9_held 20 = .ok (.iload_n 3, 1) := by decide +kernel
theorem dX9_held_21 : decode cX9_held 21 = .ok (.iconst 3, 1) := by decide +kernel
theorem dX9_held_22 : decode cX9_held 22 = .ok (.aload_n 0, 1) := by decide +kernel
theorem dX9_held_23 : decode cX9_held 23 = .ok (.getfield 101, 3) := by decide +kernel
theorem dX9_held_26 : decode cX9_held 26 = .ok (.imul, 1) := by decide +kernel
theorem dX9_held_27 : decode cX9_held 27 = .ok (.if_icmp .ge 87, 3) := by decide +kernel
theorem dX9_held_30 : decode cX9_held 30 = .ok (.aload_n 0, 1) := by decide +kernel
theorem dX9_held_31 : decode cX9_held 31 = .ok (.getfield 93, 3) := by decide +kernel
theorem dX9_held_34 : decode cX9_held 34 = .ok (.ifCond .ne 80, 3) := by decide +kernel
theorem dX9_held_37 : decode cX9_held 37 = .ok (.bipush 8, 2) := by decide +kernel
theorem dX9_held_39 : decode cX9_held 39 = .ok (.iload_n 3, 1) := by decide +kernel
theorem dX9_held_40 : decode cX9_held 40 = .ok (.imul, 1) := by decide +kernel
theorem dX9_held_41 : decode cX9_held 41 = .ok (.iload_n 1, 1) := by decide +kernel
theorem dX9_held_42 : decode cX9_held 42 = .ok (.iadd, 1) := by decide +kernel
theorem dX9_held_43 : decode cX9_held 43 = .ok (.istore 4, 2) := by decide +kernel
theorem dX9_held_45 : decode cX9_held 45 = .ok (.aload_n 0, 1) := by decide +kernel
theorem dX9_held_46 : decode cX9_held 46 = .ok (.getfield 31, 3) := by decide +kernel
theorem dX9_held_49 : decode cX9_held 49 = .ok (.iload 4, 2) := by decide +kernel
theorem dX9_held_51 : decode cX9_held 51 = .ok (.iaload, 1) := by decide +kernel
theorem dX9_held_52 : decode cX9_held 52 = .ok (.ifCond .le 35, 3) := by decide +kernel
theorem dX9_held_55 : decode cX9_held 55 = .ok (.aload_n 0, 1) := by decide +kernel
theorem dX9_held_56 : decode cX9_held 56 = .ok (.getfield 40, 3) := by decide +kernel
theorem dX9_held_59 : decode cX9_held 59 = .ok (.iload 4, 2) := by decide +kernel
theorem dX9_held_61 : decode cX9_held 61 = .ok (.baload, 1) := by decide +kernel
theorem dX9_held_62 : decode cX9_held 62 = .ok (.ifCond .ne 25, 3) := by decide +kernel
theorem dX9_held_65 : decode cX9_held 65 = .ok (.aload_n 0, 1) := by decide +kernel
theorem dX9_held_66 : decode cX9_held 66 = .ok (.getfield 44, 3) := by decide +kernel
theorem dX9_held_69 : decode cX9_held 69 = .ok (.iload 4, 2) := by decide +kernel
theorem dX9_held_71 : decode cX9_held 71 = .ok (.baload, 1) := by decide +kernel
theorem dX9_held_72 : decode cX9_held 72 = .ok (.ifCond .ne 15, 3) := by decide +kernel
theorem dX9_held_75 : decode cX9_held 75 = .ok (.aload_n 0, 1) := by decide +kernel
theorem dX9_held_76 : decode cX9_held 76 = .ok (.iload_n 3, 1) := by decide +kernel
theorem dX9_held_77 : decode cX9_held 77 = .ok (.invokevirtual 210, 3) := by decide +kernel
theorem dX9_held_80 : decode cX9_held 80 = .ok (.ifCond .ne 7, 3) := by decide +kernel
theorem dX9_held_83 : decode cX9_held 83 = .ok (.iconst 1, 1) := by decide +kernel
theorem dX9_held_84 : decode cX9_held 84 = .ok (.goto 4, 3) := by decide +kernel
theorem dX9_held_87 : decode cX9_held 87 = .ok (.iconst 0, 1) := by decide +kernel
theorem dX9_held_88 : decode cX9_held 88 = .ok (.istore 5, 2) := by decide +kernel
theorem dX9_held_90 : decode cX9_held 90 = .ok (.iload_n 2, 1) := by decide +kernel
theorem dX9_held_91 : decode cX9_held 91 = .ok (.iload 5, 2) := by decide +kernel
theorem dX9_held_93 : decode cX9_held 93 = .ok (.ifCond .eq 12, 3) := by decide +kernel
theorem dX9_held_96 : decode cX9_held 96 = .ok (.aload_n 0, 1) := by decide +kernel
theorem dX9_held_97 : decode cX9_held 97 = .ok (.getfield 28, 3) := by decide +kernel
theorem dX9_held_100 : decode cX9_held 100 = .ok (.iload_n 3, 1) := by decide +kernel
theorem dX9_held_101 : decode cX9_held 101 = .ok (.iaload, 1) := by decide +kernel
theorem dX9_held_102 : decode cX9_held 102 = .ok (.goto 4, 3) := by decide +kernel
theorem dX9_held_105 : decode cX9_held 105 = .ok (.iconst 0, 1) := by decide +kernel
theorem dX9_held_106 : decode cX9_held 106 = .ok (.iadd, 1) := by decide +kernel
theorem dX9_held_107 : decode cX9_held 107 = .ok (.istore_n 2, 1) := by decide +kernel
theorem dX9_held_108 : decode cX9_held 108 = .ok (.iinc 3 1, 3) := by decide +kernel
theorem dX9_held_111 : decode cX9_held 111 = .ok (.goto (-91), 3) := by decide +kernel
theorem dX9_held_114 : decode cX9_held 114 = .ok (.iload_n 2, 1) := by decide +kernel
theorem dX9_held_115 : decode cX9_held 115 = .ok (.ireturn, 1) := by decide +kernel
set_option maxRecDepth 20000 in
theorem ggX9_lost_X9_isBidder : GoodIn wsX9_lost wsX9_isBidder := goodIn_r _ [6, 7, 8, 5, 9] (by decide +kernel) (by decide +kernel)
set_option maxRecDepth 20000 in
theorem gX9_lost_X9_isBidder : GoodIn wsX9_lost (va_wsS RX9 114 yX9_isBidder wsX9_isBidder) := goodIn_app (goodIn_of _ (by decide +kernel)) ggX9_lost_X9_isBidder
theorem dX9_lost_0 : decode cX9_lost 0 = .ok (.aload_n 0, 1) := by decide +kernel
theorem dX9_lost_1 : decode cX9_lost 1 = .ok (.iload_n 1, 1) := by decide +kernel
theorem dX9_lost_2 : decode cX9_lost 2 = .ok (.invokestatic 114, 3) := by decide +kernel
theorem dX9_lost_5 : decode cX9_lost 5 = .ok (.ifCond .eq 7, 3) := by decide +kernel
theorem dX9_lost_8 : decode cX9_lost 8 = .ok (.iconst 0, 1) := by decide +kernel
theorem dX9_lost_9 : decode cX9_lost 9 = .ok (.goto 4, 3) := by decide +kernel
theorem dX9_lost_12 : decode cX9_lost 12 = .ok (.iconst 1, 1) := by decide +kernel
theorem dX9_lost_13 : decode cX9_lost 13 = .ok (.putfield 93, 3) := by decide +kernel
theorem dX9_lost_16 : decode cX9_lost 16 = .ok (.aload_n 0, 1) := by decide +kernel
theorem dX9_lost_17 : decode cX9_lost 17 = .ok (.getfield 93, 3) := by decide +kernel
theorem dX9_lost_20 : decode cX9_lost 20 = .ok (.ifCond .le 7, 3) := by decide +kernel
theorem dX9_lost_23 : decode cX9_lost 23 = .ok (.iconst 0, 1) := by decide +kernel
theorem dX9_lost_24 : decode cX9_lost 24 = .ok (.goto 9, 3) := by decide +kernel
theorem dX9_lost_27 : decode cX9_lost 27 = .ok (.aload_n 0, 1) := by decide +kernel
theorem dX9_lost_28 : decode cX9_lost 28 = .ok (.getfield 86, 3) := by decide +kernel
theorem dX9_lost_31 : decode cX9_lost 31 = .ok (.iload_n 1, 1) := by decide +kernel
theorem dX9_lost_32 : decode cX9_lost 32 = .ok (.iaload, 1) := by decide +kernel
theorem dX9_lost_33 : decode cX9_lost 33 = .ok (.ireturn, 1) := by decide +kernel

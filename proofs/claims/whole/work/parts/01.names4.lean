set_option maxRecDepth 20000 in
theorem ggX8_sign_X8_isRootMade : GoodIn wsX8_sign wsX8_isRootMade := goodIn_r _ [16, 3, 2, 6, 17, 18, 19, 20, 21, 22, 119, 120, 121, 122, 123, 124, 125, 126, 127, 130, 131, 132, 133, 128, 129] (by decide +kernel) (by decide +kernel)
set_option maxRecDepth 20000 in
theorem gX8_sign_X8_isRootMade : GoodIn wsX8_sign (wsV RX8 148 RX8 yX8_isRootMade wsX8_isRootMade) := goodIn_app (goodIn_of _ (by decide +kernel)) ggX8_sign_X8_isRootMade
set_option maxRecDepth 20000 in
theorem ggX8_sign_X3_leaves : GoodIn wsX8_sign wsX3_leaves := goodIn_r _ [27, 28, 130, 131, 132, 133] (by decide +kernel) (by decide +kernel)
set_option maxRecDepth 20000 in
theorem gX8_sign_X3_leaves : GoodIn wsX8_sign (wsV RX8 79 RX3 yX3_leaves wsX3_leaves) := goodIn_app (goodIn_of _ (by decide +kernel)) ggX8_sign_X3_leaves
set_option maxRecDepth 20000 in
theorem ggX8_sign_X8_readDigits : GoodIn wsX8_sign wsX8_readDigits := goodIn_r _ [32, 33, 34, 35, 2, 9, 10, 36, 37, 38, 39, 40, 41, 42, 43, 44, 45, 46, 47, 48, 49, 50, 51, 52, 53, 54, 55, 56, 57, 58, 59, 60, 61, 62, 63, 64, 65, 66, 67, 68, 69, 70, 71, 72, 73, 74, 75, 76, 77, 78, 79, 119, 120, 121, 122, 123, 124, 125, 126, 127, 138, 139, 130, 131, 132, 133, 140, 141, 142, 137] (by decide +kernel) (by decide +kernel)
set_option maxRecDepth 20000 in
theorem gX8_sign_X8_readDigits : GoodIn wsX8_sign (wsV RX8 151 RX8 yX8_readDigits wsX8_readDigits) := goodIn_app (goodIn_of _ (by decide +kernel)) ggX8_sign_X8_readDigits
set_option maxRecDepth 20000 in
theorem ggX8_sign_X6_open : GoodIn wsX8_sign wsX6_open := goodIn_r _ [84, 85, 86, 134, 135, 136] (by decide +kernel) (by decide +kernel)
set_option maxRecDepth 20000 in
theorem gX8_sign_X6_open : GoodIn wsX8_sign (wsV RX8 159 RX6 yX6_open wsX6_open) := goodIn_app (goodIn_of _ (by decide +kernel)) ggX8_sign_X6_open
set_option maxRecDepth 20000 in
theorem ggX8_sign_X0_makeStart : GoodIn wsX8_sign wsX0_makeStart := goodIn_r _ [91, 92, 93, 94, 95, 39, 40, 41, 42, 43, 44, 96, 46, 47, 48, 49, 50, 51, 52, 53, 97, 98, 99, 100, 101, 102, 103, 61, 104, 63, 143, 144, 130, 131, 132, 133, 140, 141, 142] (by decide +kernel) (by decide +kernel)
set_option maxRecDepth 20000 in
theorem gX8_sign_X0_makeStart : GoodIn wsX8_sign (wsV RX8 165 RX0 yX0_makeStart wsX0_makeStart) := goodIn_app (goodIn_of _ (by decide +kernel)) ggX8_sign_X0_makeStart
set_option maxRecDepth 20000 in
theorem ggX8_sign_X0_carry : GoodIn wsX8_sign wsX0_carry := goodIn_r _ [108, 92, 95, 39, 40, 41, 42, 43, 44, 96, 46, 47, 48, 49, 50, 51, 52, 53, 109, 55, 56, 57, 58, 59, 60, 61, 62, 63, 64, 97, 98, 99, 100, 101, 102, 103, 104, 143, 144, 140, 141, 142] (by decide +kernel) (by decide +kernel)
set_option maxRecDepth 20000 in
theorem gX8_sign_X0_carry : GoodIn wsX8_sign (wsV RX8 169 RX0 yX0_carry wsX0_carry) := goodIn_app (goodIn_of _ (by decide +kernel)) ggX8_sign_X0_carry
set_option maxRecDepth 20000 in
theorem ggX8_sign_X7_slot : GoodIn wsX8_sign wsX7_slot := goodIn_r _ [112] (by decide +kernel) (by decide +kernel)
set_option maxRecDepth 20000 in
theorem gX8_sign_X7_slot : GoodIn wsX8_sign (va_wsS RX8 125 yX7_slot wsX7_slot) := goodIn_app (goodIn_of _ (by decide +kernel)) ggX8_sign_X7_slot
set_option maxRecDepth 20000 in
theorem ggX8_sign_X5_copy : GoodIn wsX8_sign wsX5_copy := goodIn_r _ [116, 117, 59, 60, 61, 62, 63, 118, 102, 103, 104, 142] (by decide +kernel) (by decide +kernel)
set_option maxRecDepth 20000 in
theorem gX8_sign_X5_copy : GoodIn wsX8_sign (wsV RX8 173 RX5 yX5_copy wsX5_copy) := goodIn_app (goodIn_of _ (by decide +kernel)) ggX8_sign_X5_copy
theorem dX8_sign_0 : decode cX8_sign 0 = .ok (.aload_n 0, 1) := by decide +kernel
theorem dX8_sign_1 : decode cX8_sign 1 = .ok (.invokevirtual 148, 3) := by decide +kernel
theorem dX8_sign_4 : decode cX8_sign 4 = .ok (.ifCond .ne 5, 3) := by decide +kernel
theorem dX8_sign_7 : decode cX8_sign 7 = .ok (.iconst (-1), 1) := by decide +kernel
theorem dX8_sign_8 : decode cX8_sign 8 = .ok (.ireturn, 1) := by decide +kernel
theorem dX8_sign_9 : decode cX8_sign 9 = .ok (.aload_n 0, 1) := by decide +kernel
theorem dX8_sign_10 : decode cX8_sign 10 = .ok (.getfield 67, 3) := by decide +kernel
theorem dX8_sign_13 : decode cX8_sign 13 = .ok (.aload_n 0, 1) := by decide +kernel
theorem dX8_sign_14 : decode cX8_sign 14 = .ok (.getfield 10, 3) := by decide +kernel
theorem dX8_sign_17 : decode cX8_sign 17 = .ok (.invokevirtual 79, 3) := by decide +kernel
theorem dX8_sign_20 : decode cX8_sign 20 = .ok (.if_icmp .lt 6, 3) := by decide +kernel
theorem dX8_sign_23 : decode cX8_sign 23 = .ok (.bipush (-2), 2) := by decide +kernel
theorem dX8_sign_25 : decode cX8_sign 25 = .ok (.ireturn, 1) := by decide +kernel
theorem dX8_sign_26 : decode cX8_sign 26 = .ok (.aload_n 0, 1) := by decide +kernel
theorem dX8_sign_27 : decode cX8_sign 27 = .ok (.getfield 67, 3) := by decide +kernel
theorem dX8_sign_30 : decode cX8_sign 30 = .ok (.istore_n 1, 1) := by decide +kernel
theorem dX8_sign_31 : decode cX8_sign 31 = .ok (.aload_n 0, 1) := by decide +kernel
theorem dX8_sign_32 : decode cX8_sign 32 = .ok (.dup, 1) := by decide +kernel
theorem dX8_sign_33 : decode cX8_sign 33 = .ok (.getfield 67, 3) := by decide +kernel
theorem dX8_sign_36 : decode cX8_sign 36 = .ok (.iconst 1, 1) := by decide +kernel
theorem dX8_sign_37 : decode cX8_sign 37 = .ok (.iadd, 1) := by decide +kernel
theorem dX8_sign_38 : decode cX8_sign 38 = .ok (.putfield 67, 3) := by decide +kernel
theorem dX8_sign_41 : decode cX8_sign 41 = .ok (.aload_n 0, 1) := by decide +kernel
theorem dX8_sign_42 : decode cX8_sign 42 = .ok (.iload_n 1, 1) := by decide +kernel
theorem dX8_sign_43 : decode cX8_sign 43 = .ok (.aload_n 0, 1) := by decide +kernel
theorem dX8_sign_44 : decode cX8_sign 44 = .ok (.getfield 33, 3) := by decide +kernel
theorem dX8_sign_47 : decode cX8_sign 47 = .ok (.getfield 122, 3) := by decide +kernel
theorem dX8_sign_50 : decode cX8_sign 50 = .ok (.iconst 1, 1) := by decide +kernel
theorem dX8_sign_51 : decode cX8_sign 51 = .ok (.invokevirtual 151, 3) := by decide +kernel
theorem dX8_sign_54 : decode cX8_sign 54 = .ok (.aload_n 0, 1) := by decide +kernel
theorem dX8_sign_55 : decode cX8_sign 55 = .ok (.getfield 54, 3) := by decide +kernel
theorem dX8_sign_58 : decode cX8_sign 58 = .ok (.iload_n 1, 1) := by decide +kernel
theorem dX8_sign_59 : decode cX8_sign 59 = .ok (.bipush 35, 2) := by decide +kernel
theorem dX8_sign_61 : decode cX8_sign 61 = .ok (.aload_n 0, 1) := by decide +kernel
theorem dX8_sign_62 : decode cX8_sign 62 = .ok (.getfield 10, 3) := by decide +kernel
theorem dX8_sign_65 : decode cX8_sign 65 = .ok (.getfield 115, 3) := by decide +kernel
theorem dX8_sign_68 : decode cX8_sign 68 = .ok (.iadd, 1) := by decide +kernel
theorem dX8_sign_69 : decode cX8_sign 69 = .ok (.invokevirtual 159, 3) := by decide +kernel
theorem dX8_sign_72 : decode cX8_sign 72 = .ok (.iconst 0, 1) := by decide +kernel
theorem dX8_sign_73 : decode cX8_sign 73 = .ok (.istore_n 2, 1) := by decide +kernel
theorem dX8_sign_74 : decode cX8_sign 74 = .ok (.iload_n 2, 1) := by decide +kernel
theorem dX8_sign_75 : decode cX8_sign 75 = .ok (.bipush 35, 2) := by decide +kernel
theorem dX8_sign_77 : decode cX8_sign 77 = .ok (.if_icmp .ge 62, 3) := by decide +kernel
theorem dX8_sign_80 : decode cX8_sign 80 = .ok (.aload_n 0, 1) := by decide +kernel
theorem dX8_sign_81 : decode cX8_sign 81 = .ok (.getfield 26, 3) := by decide +kernel
theorem dX8_sign_84 : decode cX8_sign 84 = .ok (.aload_n 0, 1) := by decide +kernel
theorem dX8_sign_85 : decode cX8_sign 85 = .ok (.getfield 10, 3) := by decide +kernel
theorem dX8_sign_88 : decode cX8_sign 88 = .ok (.iload_n 1, 1) := by decide +kernel
theorem dX8_sign_89 : decode cX8_sign 89 = .ok (.iload_n 2, 1) := by decide +kernel
theorem dX8_sign_90 : decode cX8_sign 90 = .ok (.aload_n 0, 1) := by decide +kernel
theorem dX8_sign_91 : decode cX8_sign 91 = .ok (.getfield 54, 3) := by decide +kernel
theorem dX8_sign_94 : decode cX8_sign 94 = .ok (.getfield 162, 3) := by decide +kernel
theorem dX8_sign_97 : decode cX8_sign 97 = .ok (.invokevirtual 165, 3) := by decide +kernel
theorem dX8_sign_100 : decode cX8_sign 100 = .ok (.aload_n 0, 1) := by decide +kernel
theorem dX8_sign_101 : decode cX8_sign 101 = .ok (.getfield 26, 3) := by decide +kernel
theorem dX8_sign_104 : decode cX8_sign 104 = .ok (.aload_n 0, 1) := by decide +kernel
theorem dX8_sign_105 : decode cX8_sign 105 = .ok (.getfield 10, 3) := by decide +kernel
theorem dX8_sign_108 : decode cX8_sign 108 = .ok (.getfield 96, 3) := by decide +kernel
theorem dX8_sign_111 : decode cX8_sign 111 = .ok (.iload_n 1, 1) := by decide +kernel
theorem dX8_sign_112 : decode cX8_sign 112 = .ok (.iload_n 2, 1) := by decide +kernel
theorem dX8_sign_113 : decode cX8_sign 113 = .ok (.iconst 0, 1) := by decide +kernel
theorem dX8_sign_114 : decode cX8_sign 114 = .ok (.aload_n 0, 1) := by decide +kernel
theorem dX8_sign_115 : decode cX8_sign 115 = .ok (.getfield 47, 3) := by decide +kernel
theorem dX8_sign_118 : decode cX8_sign 118 = .ok (.getfield 155, 3) := by decide +kernel
theorem dX8_sign_121 : decode cX8_sign 121 = .ok (.iload_n 2, 1) := by decide +kernel
theorem dX8_sign_122 : decode cX8_sign 122 = .ok (.iaload, 1) := by decide +kernel
theorem dX8_sign_123 : decode cX8_sign 123 = .ok (.aload_n 0, 1) := by decide +kernel
theorem dX8_sign_124 : decode cX8_sign 124 = .ok (.getfield 54, 3) := by decide +kernel
theorem dX8_sign_127 : decode cX8_sign 127 = .ok (.getfield 162, 3) := by decide +kernel
theorem dX8_sign_130 : decode cX8_sign 130 = .ok (.invokevirtual 169, 3) := by decide +kernel
theorem dX8_sign_133 : decode cX8_sign 133 = .ok (.iinc 2 1, 3) := by decide +kernel
theorem dX8_sign_136 : decode cX8_sign 136 = .ok (.goto (-62), 3) := by decide +kernel
theorem dX8_sign_139 : decode cX8_sign 139 = .ok (.iconst 0, 1) := by decide +kernel
theorem dX8_sign_140 : decode cX8_sign 140 = .ok (.istore_n 2, 1) := by decide +kernel
theorem dX8_sign_141 : decode cX8_sign 141 = .ok (.iload_n 2, 1) := by decide +kernel
theorem dX8_sign_142 : decode cX8_sign 142 = .ok (.aload_n 0, 1) := by decide +kernel
theorem dX8_sign_143 : decode cX8_sign 143 = .ok (.getfield 10, 3) := by decide +kernel
theorem dX8_sign_146 : decode cX8_sign 146 = .ok (.getfield 115, 3) := by decide +kernel
theorem dX8_sign_149 : decode cX8_sign 149 = .ok (.if_icmp .ge 48, 3) := by decide +kernel
theorem dX8_sign_152 : decode cX8_sign 152 = .ok (.aload_n 0, 1) := by decide +kernel
theorem dX8_sign_153 : decode cX8_sign 153 = .ok (.getfield 10, 3) := by decide +kernel
theorem dX8_sign_156 : decode cX8_sign 156 = .ok (.getfield 115, 3) := by decide +kernel
theorem dX8_sign_159 : decode cX8_sign 159 = .ok (.iload_n 2, 1) := by decide +kernel
theorem dX8_sign_160 : decode cX8_sign 160 = .ok (.iload_n 1, 1) := by decide +kernel
theorem dX8_sign_161 : decode cX8_sign 161 = .ok (.iload_n 2, 1) := by decide +kernel
theorem dX8_sign_162 : decode cX8_sign 162 = .ok (.ishr, 1) := by decide +kernel
theorem dX8_sign_163 : decode cX8_sign 163 = .ok (.invokestatic 125, 3) := by decide +kernel
theorem dX8_sign_166 : decode cX8_sign 166 = .ok (.iconst 1, 1) := by decide +kernel
theorem dX8_sign_167 : decode cX8_sign 167 = .ok (.ixor, 1) := by decide +kernel
theorem dX8_sign_168 : decode cX8_sign 168 = .ok (.istore_n 3, 1) := by decide +kernel
theorem dX8_sign_169 : decode cX8_sign 169 = .ok (.aload_n 0, 1) := by decide +kernel
theorem dX8_sign_170 : decode cX8_sign 170 = .ok (.getfield 54, 3) := by decide +kernel
theorem dX8_sign_173 : decode cX8_sign 173 = .ok (.getfield 162, 3) := by decide +kernel
theorem dX8_sign_176 : decode cX8_sign 176 = .ok (.bipush 35, 2) := by decide +kernel
theorem dX8_sign_178 : decode cX8_sign 178 = .ok (.iload_n 2, 1) := by decide +kernel
theorem dX8_sign_179 : decode cX8_sign 179 = .ok (.iadd, 1) := by decide +kernel
theorem dX8_sign_180 : decode cX8_sign 180 = .ok (.aload_n 0, 1) := by decide +kernel
theorem dX8_sign_181 : decode cX8_sign 181 = .ok (.getfield 33, 3) := by decide +kernel
theorem dX8_sign_184 : decode cX8_sign 184 = .ok (.getfield 122, 3) := by decide +kernel
theorem dX8_sign_187 : decode cX8_sign 187 = .ok (.iload_n 3, 1) := by decide +kernel
theorem dX8_sign_188 : decode cX8_sign 188 = .ok (.invokevirtual 173, 3) := by decide +kernel
theorem dX8_sign_191 : decode cX8_sign 191 = .ok (.iinc 2 1, 3) := by decide +kernel
theorem dX8_sign_194 : decode cX8_sign 194 = .ok (.goto (-53), 3) := by decide +kernel
theorem dX8_sign_197 : decode cX8_sign 197 = .ok (.iload_n 1, 1) := by decide +kernel
theorem dX8_sign_198 : decode cX8_sign 198 = .ok (.ireturn, 1) := by decide +kernel
theorem dX8_leaf_0 : decode cX8_leaf 0 = .ok (.aload_n 0, 1) := by decide +kernel
theorem dX8_leaf_1 : decode cX8_leaf 1 = .ok (.getfield 54, 3) := by decide +kernel
theorem dX8_leaf_4 : decode cX8_leaf 4 = .ok (.getfield 176, 3) := by decide +kernel
theorem dX8_leaf_7 : decode cX8_leaf 7 = .ok (.ireturn, 1) := by decide +kernel
set_option maxRecDepth 20000 in
theorem ggX8_part_X8_isHalf : GoodIn wsX8_part wsX8_isHalf := goodIn_r _ [6] (by decide +kernel) (by decide +kernel)
set_option maxRecDepth 20000 in
theorem gX8_part_X8_isHalf : GoodIn wsX8_part (va_wsS RX8 111 yX8_isHalf wsX8_isHalf) := goodIn_app (goodIn_of _ (by decide +kernel)) ggX8_part_X8_isHalf
set_option maxRecDepth 20000 in
theorem ggX8_part_X6_hasPart : GoodIn wsX8_part wsX6_hasPart := goodIn_r _ [11, 12, 28, 29, 30] (by decide +kernel) (by decide +kernel)
set_option maxRecDepth 20000 in
theorem gX8_part_X6_hasPart : GoodIn wsX8_part (wsV RX8 179 RX6 yX6_hasPart wsX6_hasPart) := goodIn_app (goodIn_of _ (by decide +kernel)) ggX8_part_X6_hasPart
set_option maxRecDepth 20000 in
theorem ggX8_part_X5_at : GoodIn wsX8_part wsX5_at := goodIn_r _ [17, 18, 31] (by decide +kernel) (by decide +kernel)
set_option maxRecDepth 20000 in
theorem gX8_part_X5_at : GoodIn wsX8_part (wsV RX8 129 RX5 yX5_at wsX5_at) := goodIn_app (goodIn_of _ (by decide +kernel)) ggX8_part_X5_at
theorem dX8_part_0 : decode cX8_part 0 = .ok (.iload_n 2, 1) := by decide +kernel
theorem dX8_part_1 : decode cX8_part 1 = .ok (.invokestatic 111, 3) := by decide +kernel
theorem dX8_part_4 : decode cX8_part 4 = .ok (.ifCond .eq 14, 3) := by decide +kernel
theorem dX8_part_7 : decode cX8_part 7 = .ok (.aload_n 0, 1) := by decide +kernel
theorem dX8_part_8 : decode cX8_part 8 = .ok (.getfield 54, 3) := by decide +kernel
theorem dX8_part_11 : decode cX8_part 11 = .ok (.iload_n 1, 1) := by decide +kernel
theorem dX8_part_12 : decode cX8_part 12 = .ok (.invokevirtual 179, 3) := by decide +kernel
theorem dX8_part_15 : decode cX8_part 15 = .ok (.ifCond .ne 5, 3) := by decide +kernel
theorem dX8_part_18 : decode cX8_part 18 = .ok (.lconst 0, 1) := by decide +kernel
theorem dX8_part_19 : decode cX8_part 19 = .ok (.lreturn, 1) := by decide +kernel
theorem dX8_part_20 : decode cX8_part 20 = .ok (.aload_n 0, 1) := by decide +kernel
theorem dX8_part_21 : decode cX8_part 21 = .ok (.getfield 54, 3) := by decide +kernel
theorem dX8_part_24 : decode cX8_part 24 = .ok (.getfield 162, 3) := by decide +kernel
theorem dX8_part_27 : decode cX8_part 27 = .ok (.iload_n 1, 1) := by decide +kernel
theorem dX8_part_28 : decode cX8_part 28 = .ok (.iload_n 2, 1) := by decide +kernel
theorem dX8_part_29 : decode cX8_part 29 = .ok (.invokevirtual 129, 3) := by decide +kernel
theorem dX8_part_32 : decode cX8_part 32 = .ok (.lreturn, 1) := by decide +kernel
set_option maxRecDepth 20000 in
theorem ggX8_setLeaf_X6_isThere : GoodIn wsX8_setLeaf wsX6_isThere := goodIn_r _ [7, 8, 18, 19, 20] (by decide +kernel) (by decide +kernel)
set_option maxRecDepth 20000 in
theorem gX8_setLeaf_X6_isThere : GoodIn wsX8_setLeaf (wsV RX8 182 RX6 yX6_isThere wsX6_isThere) := goodIn_app (goodIn_of _ (by decide +kernel)) ggX8_setLeaf_X6_isThere
theorem dX8_setLeaf_0 : decode cX8_setLeaf 0 = .ok (.aload_n 0, 1) := by decide +kernel
theorem dX8_setLeaf_1 : decode cX8_setLeaf 1 = .ok (.getfield 54, 3) := by decide +kernel
theorem dX8_setLeaf_4 : decode cX8_setLeaf 4 = .ok (.invokevirtual 182, 3) := by decide +kernel
theorem dX8_setLeaf_7 : decode cX8_setLeaf 7 = .ok (.ifCond .eq 7, 3) := by decide +kernel
theorem dX8_setLeaf_10 : decode cX8_setLeaf 10 = .ok (.iload_n 1, 1) := by decide +kernel
theorem dX8_setLeaf_11 : decode cX8_setLeaf 11 = .ok (.ifCond .ge 5, 3) := by decide +kernel
theorem dX8_setLeaf_14 : decode cX8_setLeaf 14 = .ok (.iconst 0, 1) := by decide +kernel
theorem dX8_setLeaf_15 : decode cX8_setLeaf 15 = .ok (.ireturn, 1) := by decide +kernel
theorem dX8_setLeaf_16 : decode cX8_setLeaf 16 = .ok (.aload_n 0, 1) := by decide +kernel
theorem dX8_setLeaf_17 : decode cX8_setLeaf 17 = .ok (.getfield 54, 3) := by decide +kernel
theorem dX8_setLeaf_20 : decode cX8_setLeaf 20 = .ok (.iload_n 1, 1) := by decide +kernel
theorem dX8_setLeaf_21 : decode cX8_setLeaf 21 = .ok (.putfield 176, 3) := by decide +kernel
theorem dX8_setLeaf_24 : decode cX8_setLeaf 24 = .ok (.iconst 1, 1) := by decide +kernel
theorem dX8_setLeaf_25 : decode cX8_setLeaf 25 = .ok (.ireturn, 1) := by decide +kernel
set_option maxRecDepth 20000 in
theorem ggX8_setPart_X8_isHalf : GoodIn wsX8_setPart wsX8_isHalf := goodIn_r _ [6] (by decide +kernel) (by decide +kernel)
set_option maxRecDepth 20000 in
theorem gX8_setPart_X8_isHalf : GoodIn wsX8_setPart (va_wsS RX8 111 yX8_isHalf wsX8_isHalf) := goodIn_app (goodIn_of _ (by decide +kernel)) ggX8_setPart_X8_isHalf
set_option maxRecDepth 20000 in
theorem ggX8_setPart_X6_hasPart : GoodIn wsX8_setPart wsX6_hasPart := goodIn_r _ [11, 12, 28, 29, 30] (by decide +kernel) (by decide +kernel)
set_option maxRecDepth 20000 in
theorem gX8_setPart_X6_hasPart : GoodIn wsX8_setPart (wsV RX8 179 RX6 yX6_hasPart wsX6_hasPart) := goodIn_app (goodIn_of _ (by decide +kernel)) ggX8_setPart_X6_hasPart
set_option maxRecDepth 20000 in
theorem ggX8_setPart_X5_put : GoodIn wsX8_setPart wsX5_put := goodIn_r _ [17, 18, 31] (by decide +kernel) (by decide +kernel)
set_option maxRecDepth 20000 in
theorem gX8_setPart_X5_put : GoodIn wsX8_setPart (wsV RX8 185 RX5 yX5_put wsX5_put) := goodIn_app (goodIn_of _ (by decide +kernel)) ggX8_setPart_X5_put
theorem dX8_setPart_0 : decode cX8_setPart 0 = .ok (.iload_n 2, 1) := by decide +kernel
theorem dX8_setPart_1 : decode cX8_setPart 1 = .ok (.invokestatic 111, 3) := by decide +kernel
theorem dX8_setPart_4 : decode cX8_setPart 4 = .ok (.ifCond .eq 14, 3) := by decide +kernel
theorem dX8_setPart_7 : decode cX8_setPart 7 = .ok (.aload_n 0, 1) := by decide +kernel
theorem dX8_setPart_8 : decode cX8_setPart 8 = .ok (.getfield 54, 3) := by decide +kernel
theorem dX8_setPart_11 : decode cX8_setPart 11 = .ok (.iload_n 1, 1) := by decide +kernel
theorem dX8_setPart_12 : decode cX8_setPart 12 = .ok (.invokevirtual 179, 3) := by decide +kernel
theorem dX8_setPart_15 : decode cX8_setPart 15 = .ok (.ifCond .ne 5, 3) := by decide +kernel
theorem dX8_setPart_18 : decode cX8_setPart 18 = .ok (.iconst 0, 1) := by decide +kernel
theorem dX8_setPart_19 : decode cX8_setPart 19 = .ok (.ireturn, 1) := by decide +kernel
theorem dX8_setPart_20 : decode cX8_setPart 20 = .ok (.aload_n 0, 1) := by decide +kernel
theorem dX8_setPart_21 : decode cX8_setPart 21 = .ok (.getfield 54, 3) := by decide +kernel
theorem dX8_setPart_24 : decode cX8_setPart 24 = .ok (.getfield 162, 3) := by decide +kernel
theorem dX8_setPart_27 : decode cX8_setPart 27 = .ok (.iload_n 1, 1) := by decide +kernel
theorem dX8_setPart_28 : decode cX8_setPart 28 = .ok (.iload_n 2, 1) := by decide +kernel
theorem dX8_setPart_29 : decode cX8_setPart 29 = .ok (.lload_n 3, 1) := by decide +kernel
theorem dX8_setPart_30 : decode cX8_setPart 30 = .ok (.invokevirtual 185, 3) := by decide +kernel
theorem dX8_setPart_33 : decode cX8_setPart 33 = .ok (.iconst 1, 1) := by decide +kernel
theorem dX8_setPart_34 : decode cX8_setPart 34 = .ok (.ireturn, 1) := by decide +kernel
set_option maxRecDepth 20000 in
theorem ggX8_tell_X8_isHalf : GoodIn wsX8_tell wsX8_isHalf := goodIn_r _ [5] (by decide +kernel) (by decide +kernel)
set_option maxRecDepth 20000 in
theorem gX8_tell_X8_isHalf : GoodIn wsX8_tell (va_wsS RX8 111 yX8_isHalf wsX8_isHalf) := goodIn_app (goodIn_of _ (by decide +kernel)) ggX8_tell_X8_isHalf
set_option maxRecDepth 20000 in
theorem ggX8_tell_X5_put : GoodIn wsX8_tell wsX5_put := goodIn_r _ [10, 11, 21] (by decide +kernel) (by decide +kernel)
set_option maxRecDepth 20000 in
theorem gX8_tell_X5_put : GoodIn wsX8_tell (wsV RX8 185 RX5 yX5_put wsX5_put) := goodIn_app (goodIn_of _ (by decide +kernel)) ggX8_tell_X5_put
theorem dX8_tell_0 : decode cX8_tell 0 = .ok (.iload_n 1, 1) := by decide +kernel
theorem dX8_tell_1 : decode cX8_tell 1 = .ok (.invokestatic 111, 3) := by decide +kernel
theorem dX8_tell_4 : decode cX8_tell 4 = .ok (.ifCond .ne 5, 3) := by decide +kernel
theorem dX8_tell_7 : decode cX8_tell 7 = .ok (.iconst 0, 1) := by decide +kernel
theorem dX8_tell_8 : decode cX8_tell 8 = .ok (.ireturn, 1) := by decide +kernel
theorem dX8_tell_9 : decode cX8_tell 9 = .ok (.aload_n 0, 1) := by decide +kernel
theorem dX8_tell_10 : decode cX8_tell 10 = .ok (.getfield 63, 3) := by decide +kernel
theorem dX8_tell_13 : decode cX8_tell 13 = .ok (.iconst 0, 1) := by decide +kernel
theorem dX8_tell_14 : decode cX8_tell 14 = .ok (.iload_n 1, 1) := by decide +kernel
theorem dX8_tell_15 : decode cX8_tell 15 = .ok (.lload_n 2, 1) := by decide +kernel
theorem dX8_tell_16 : decode cX8_tell 16 = .ok (.invokevirtual 185, 3) := by decide +kernel
theorem dX8_tell_19 : decode cX8_tell 19 = .ok (.iconst 1, 1) := by decide +kernel
theorem dX8_tell_20 : decode cX8_tell 20 = .ok (.ireturn, 1) := by decide +kernel
set_option maxRecDepth 20000 in
theorem ggX8_verify_X6_isThere : GoodIn wsX8_verify wsX6_isThere := goodIn_r _ [14, 15, 137, 138, 139] (by decide +kernel) (by decide +kernel)
set_option maxRecDepth 20000 in
theorem gX8_verify_X6_isThere : GoodIn wsX8_verify (wsV RX8 182 RX6 yX6_isThere wsX6_isThere) := goodIn_app (goodIn_of _ (by decide +kernel)) ggX8_verify_X6_isThere
set_option maxRecDepth 20000 in
theorem ggX8_verify_X3_hasLeaf : GoodIn wsX8_verify wsX3_hasLeaf := goodIn_r _ [20, 21, 22, 23, 19, 24, 25, 140, 141, 142, 143] (by decide +kernel) (by decide +kernel)
set_option maxRecDepth 20000 in
theorem gX8_verify_X3_hasLeaf : GoodIn wsX8_verify (wsV RX8 145 RX3 yX3_hasLeaf wsX3_hasLeaf) := goodIn_app (goodIn_of _ (by decide +kernel)) ggX8_verify_X3_hasLeaf
set_option maxRecDepth 20000 in
theorem ggX8_verify_X8_readDigits : GoodIn wsX8_verify wsX8_readDigits := goodIn_r _ [30, 8, 31, 32, 2, 6, 7, 33, 34, 35, 36, 37, 38, 39, 40, 41, 42, 43, 44, 45, 46, 47, 48, 49, 50, 51, 52, 53, 54, 55, 56, 57, 58, 59, 60, 61, 62, 63, 64, 65, 66, 67, 68, 69, 70, 71, 72, 73, 74, 75, 76, 128, 129, 130, 131, 132, 133, 134, 135, 136, 146, 147, 140, 141, 142, 143, 148, 149, 150, 151] (by decide +kernel) (by decide +kernel)
set_option maxRecDepth 20000 in
theorem gX8_verify_X8_readDigits : GoodIn wsX8_verify (wsV RX8 151 RX8 yX8_readDigits wsX8_readDigits) := goodIn_app (goodIn_of _ (by decide +kernel)) ggX8_verify_X8_readDigits
set_option maxRecDepth 20000 in
theorem ggX8_verify_X0_carryAllToEnds : GoodIn wsX8_verify wsX0_carryAllToEnds := goodIn_r _ [81, 82, 83, 84, 85, 86, 87, 88, 58, 89, 90, 56, 57, 59, 60, 91, 92, 93, 94, 95, 96, 97, 80, 98, 99, 100, 36, 37, 38, 39, 40, 41, 101, 43, 44, 45, 46, 47, 48, 49, 50, 102, 52, 53, 54, 55, 61, 103, 104, 105, 106, 107, 144, 145, 137, 138, 139, 151, 150, 148, 149] (by decide +kernel) (by decide +kernel)
set_option maxRecDepth 20000 in
theorem gX8_verify_X0_carryAllToEnds : GoodIn wsX8_verify (wsV RX8 189 RX0 yX0_carryAllToEnds wsX0_carryAllToEnds) := goodIn_app (goodIn_of _ (by decide +kernel)) ggX8_verify_X0_carryAllToEnds
set_option maxRecDepth 20000 in
theorem ggX8_verify_X2_hashLeaf : GoodIn wsX8_verify wsX2_hashLeaf := goodIn_r _ [111, 112, 36, 37, 38, 39, 40, 41, 61, 43, 44, 45, 46, 47, 48, 49, 50, 113, 52, 53, 54, 55, 56, 57, 58, 59, 60, 148, 149, 150] (by decide +kernel) (by decide +kernel)
set_option maxRecDepth 20000 in
theorem gX8_verify_X2_hashLeaf : GoodIn wsX8_verify (wsV RX8 103 RX2 yX2_hashLeaf wsX2_hashLeaf) := goodIn_app (goodIn_of _ (by decide +kernel)) ggX8_verify_X2_hashLeaf
set_option maxRecDepth 20000 in
theorem ggX8_verify_X8_climbToRoot : GoodIn wsX8_verify wsX8_climbToRoot := goodIn_r _ [117, 2, 118, 8, 33, 34, 1, 3, 6, 119, 120, 121, 122, 38, 123, 112, 36, 37, 39, 40, 41, 61, 43, 44, 45, 46, 47, 48, 49, 50, 42, 51, 52, 53, 54, 55, 56, 57, 58, 59, 60, 128, 129, 130, 131, 132, 133, 134, 135, 136, 140, 141, 142, 143, 148, 149, 137, 138, 139, 150] (by decide +kernel) (by decide +kernel)
set_option maxRecDepth 20000 in
theorem gX8_verify_X8_climbToRoot : GoodIn wsX8_verify (wsV RX8 193 RX8 yX8_climbToRoot wsX8_climbToRoot) := goodIn_app (goodIn_of _ (by decide +kernel)) ggX8_verify_X8_climbToRoot
set_option maxRecDepth 20000 in
theorem ggX8_verify_X2_gave : GoodIn wsX8_verify wsX2_gave := goodIn_r _ [127, 40, 41, 55, 56, 57, 58, 59, 60, 148, 149, 150] (by decide +kernel) (by decide +kernel)
set_option maxRecDepth 20000 in
theorem gX8_verify_X2_gave : GoodIn wsX8_verify (wsV RX8 196 RX2 yX2_gave wsX2_gave) := goodIn_app (goodIn_of _ (by decide +kernel)) ggX8_verify_X2_gave
theorem dX8_verify_0 : decode cX8_verify 0 = .ok (.aload_n 0, 1) := by decide +kernel
theorem dX8_verify_1 : decode cX8_verify 1 = .ok (.getfield 54, 3) := by decide +kernel
theorem dX8_verify_4 : decode cX8_verify 4 = .ok (.invokevirtual 182, 3) := by decide +kernel
theorem dX8_verify_7 : decode cX8_verify 7 = .ok (.ifCond .ne 5, 3) := by decide +kernel
theorem dX8_verify_10 : decode cX8_verify 10 = .ok (.iconst (-1), 1) := by decide +kernel
theorem dX8_verify_11 : decode cX8_verify 11 = .ok (.ireturn, 1) := by decide +kernel
theorem dX8_verify_12 : decode cX8_verify 12 = .ok (.aload_n 0, 1) := by decide +kernel
theorem dX8_verify_13 : decode cX8_verify 13 = .ok (.getfield 10, 3) := by decide +kernel
theorem dX8_verify_16 : decode cX8_verify 16 = .ok (.aload_n 0, 1) := by decide +kernel
theorem dX8_verify_17 : decode cX8_verify 17 = .ok (.getfield 54, 3) := by decide +kernel
theorem dX8_verify_20 : decode cX8_verify 20 = .ok (.getfield 176, 3) := by decide +kernel
theorem dX8_verify_23 : decode cX8_verify 23 = .ok (.invokevirtual 145, 3) := by decide +kernel
theorem dX8_verify_26 : decode cX8_verify 26 = .ok (.ifCond .ne 5, 3) := by decide +kernel
theorem dX8_verify_29 : decode cX8_verify 29 = .ok (.iconst 1, 1) := by decide +kernel
theorem dX8_verify_30 : decode cX8_verify 30 = .ok (.ireturn, 1) := by decide +kernel
theorem dX8_verify_31 : decode cX8_verify 31 = .ok (.aload_n 0, 1) := by decide +kernel
theorem dX8_verify_32 : decode cX8_verify 32 = .ok (.aload_n 0, 1) := by decide +kernel
theorem dX8_verify_33 : decode cX8_verify 33 = .ok (.getfield 54, 3) := by decide +kernel
theorem dX8_verify_36 : decode cX8_verify 36 = .ok (.getfield 176, 3) := by decide +kernel
theorem dX8_verify_39 : decode cX8_verify 39 = .ok (.aload_n 0, 1) := by decide +kernel
theorem dX8_verify_40 : decode cX8_verify 40 = .ok (.getfield 63, 3) := by decide +kernel
theorem dX8_verify_43 : decode cX8_verify 43 = .ok (.iconst 0, 1) := by decide +kernel
theorem dX8_verify_44 : decode cX8_verify 44 = .ok (.invokevirtual 151, 3) := by decide +kernel
theorem dX8_verify_47 : decode cX8_verify 47 = .ok (.aload_n 0, 1) := by decide +kernel
theorem dX8_verify_48 : decode cX8_verify 48 = .ok (.getfield 26, 3) := by decide +kernel
theorem dX8_verify_51 : decode cX8_verify 51 = .ok (.aload_n 0, 1) := by decide +kernel
theorem dX8_verify_52 : decode cX8_verify 52 = .ok (.getfield 10, 3) := by decide +kernel
theorem dX8_verify_55 : decode cX8_verify 55 = .ok (.getfield 96, 3) := by decide +kernel
theorem dX8_verify_58 : decode cX8_verify 58 = .ok (.aload_n 0, 1) := by decide +kernel
theorem dX8_verify_59 : decode cX8_verify 59 = .ok (.getfield 54, 3) := by decide +kernel
theorem dX8_verify_62 : decode cX8_verify 62 = .ok (.aload_n 0, 1) := by decide +kernel
theorem dX8_verify_63 : decode cX8_verify 63 = .ok (.getfield 47, 3) := by decide +kernel
theorem dX8_verify_66 : decode cX8_verify 66 = .ok (.invokevirtual 189, 3) := by decide +kernel
theorem dX8_verify_69 : decode cX8_verify 69 = .ok (.aload_n 0, 1) := by decide +kernel
theorem dX8_verify_70 : decode cX8_verify 70 = .ok (.getfield 19, 3) := by decide +kernel
theorem dX8_verify_73 : decode cX8_verify 73 = .ok (.aload_n 0, 1) := by decide +kernel
theorem dX8_verify_74 : decode cX8_verify 74 = .ok (.getfield 10, 3) := by decide +kernel
theorem dX8_verify_77 : decode cX8_verify 77 = .ok (.getfield 96, 3) := by decide +kernel
theorem dX8_verify_80 : decode cX8_verify 80 = .ok (.aload_n 0, 1) := by decide +kernel
theorem dX8_verify_81 : decode cX8_verify 81 = .ok (.getfield 54, 3) := by decide +kernel
theorem dX8_verify_84 : decode cX8_verify 84 = .ok (.getfield 176, 3) := by decide +kernel
theorem dX8_verify_87 : decode cX8_verify 87 = .ok (.aload_n 0, 1) := by decide +kernel
theorem dX8_verify_88 : decode cX8_verify 88 = .ok (.getfield 26, 3) := by decide +kernel
theorem dX8_verify_91 : decode cX8_verify 91 = .ok (.getfield 100, 3) := by decide +kernel
theorem dX8_verify_94 : decode cX8_verify 94 = .ok (.invokevirtual 103, 3) := by decide +kernel
theorem dX8_verify_97 : decode cX8_verify 97 = .ok (.aload_n 0, 1) := by decide +kernel
theorem dX8_verify_98 : decode cX8_verify 98 = .ok (.invokevirtual 193, 3) := by decide +kernel
theorem dX8_verify_101 : decode cX8_verify 101 = .ok (.aload_n 0, 1) := by decide +kernel
theorem dX8_verify_102 : decode cX8_verify 102 = .ok (.getfield 19, 3) := by decide +kernel
theorem dX8_verify_105 : decode cX8_verify 105 = .ok (.aload_n 0, 1) := by decide +kernel
theorem dX8_verify_106 : decode cX8_verify 106 = .ok (.getfield 63, 3) := by decide +kernel
theorem dX8_verify_109 : decode cX8_verify 109 = .ok (.iconst 0, 1) := by decide +kernel
theorem dX8_verify_110 : decode cX8_verify 110 = .ok (.invokevirtual 196, 3) := by decide +kernel
theorem dX8_verify_113 : decode cX8_verify 113 = .ok (.ifCond .eq 7, 3) := by decide +kernel
theorem dX8_verify_116 : decode cX8_verify 116 = .ok (.iconst 0, 1) := by decide +kernel
theorem dX8_verify_117 : decode cX8_verify 117 = .ok (.goto 4, 3) := by decide +kernel
theorem dX8_verify_120 : decode cX8_verify 120 = .ok (.iconst 2, 1) := by decide +kernel
theorem dX8_verify_121 : decode cX8_verify 121 = .ok (.ireturn, 1) := by decide +kernel
set_option maxRecDepth 20000 in
theorem ggX8_hash_X8_isHalf : GoodIn wsX8_hash wsX8_isHalf := goodIn_r _ [9] (by decide +kernel) (by decide +kernel)
set_option maxRecDepth 20000 in
theorem gX8_hash_X8_isHalf : GoodIn wsX8_hash (va_wsS RX8 111 yX8_isHalf wsX8_isHalf) := goodIn_app (goodIn_of _ (by decide +kernel)) ggX8_hash_X8_isHalf
set_option maxRecDepth 20000 in
theorem ggX8_hash_X2_start : GoodIn wsX8_hash wsX2_start := goodIn_r _ [14, 15, 16, 43, 44] (by decide +kernel) (by decide +kernel)
set_option maxRecDepth 20000 in
theorem gX8_hash_X2_start : GoodIn wsX8_hash (wsV RX8 200 RX2 yX2_start wsX2_start) := goodIn_app (goodIn_of _ (by decide +kernel)) ggX8_hash_X2_start
set_option maxRecDepth 20000 in
theorem ggX8_hash_X2_addMessage : GoodIn wsX8_hash wsX2_addMessage := goodIn_r _ [20, 21, 22, 23, 24, 25, 13, 26, 15, 16, 27, 28, 29, 30, 31, 41, 42, 43, 44] (by decide +kernel) (by decide +kernel)
set_option maxRecDepth 20000 in
theorem gX8_hash_X2_addMessage : GoodIn wsX8_hash (wsV RX8 203 RX2 yX2_addMessage wsX2_addMessage) := goodIn_app (goodIn_of _ (by decide +kernel)) ggX8_hash_X2_addMessage
theorem dX8_hash_0 : decode cX8_hash 0 = .ok (.iload_n 2, 1) := by decide +kernel
theorem dX8_hash_1 : decode cX8_hash 1 = .ok (.invokestatic 111, 3) := by decide +kernel
theorem dX8_hash_4 : decode cX8_hash 4 = .ok (.ifCond .ne 5, 3) := by decide +kernel
theorem dX8_hash_7 : decode cX8_hash 7 = .ok (.lconst 0, 1) := by decide +kernel
theorem dX8_hash_8 : decode cX8_hash 8 = .ok (.lreturn, 1) := by decide +kernel
theorem dX8_hash_9 : decode cX8_hash 9 = .ok (.aload_n 0, 1) := by decide +kernel
theorem dX8_hash_10 : decode cX8_hash 10 = .ok (.getfield 19, 3) := by decide +kernel
theorem dX8_hash_13 : decode cX8_hash 13 = .ok (.iload_n 1, 1) := by decide +kernel
theorem dX8_hash_14 : decode cX8_hash 14 = .ok (.aload_n 0, 1) := by decide +kernel
theorem dX8_hash_15 : decode cX8_hash 15 = .ok (.getfield 40, 3) := by decide +kernel
theorem dX8_hash_18 : decode cX8_hash 18 = .ok (.getfield 141, 3) := by decide +kernel
theorem dX8_hash_21 : decode cX8_hash 21 = .ok (.invokevirtual 200, 3) := by decide +kernel
theorem dX8_hash_24 : decode cX8_hash 24 = .ok (.aload_n 0, 1) := by decide +kernel
theorem dX8_hash_25 : decode cX8_hash 25 = .ok (.getfield 19, 3) := by decide +kernel
theorem dX8_hash_28 : decode cX8_hash 28 = .ok (.aload_n 0, 1) := by decide +kernel
theorem dX8_hash_29 : decode cX8_hash 29 = .ok (.getfield 40, 3) := by decide +kernel
theorem dX8_hash_32 : decode cX8_hash 32 = .ok (.invokevirtual 203, 3) := by decide +kernel
theorem dX8_hash_35 : decode cX8_hash 35 = .ok (.iload_n 2, 1) := by decide +kernel
theorem dX8_hash_36 : decode cX8_hash 36 = .ok (.ifCond .ne 13, 3) := by decide +kernel
theorem dX8_hash_39 : decode cX8_hash 39 = .ok (.aload_n 0, 1) := by decide +kernel
theorem dX8_hash_40 : decode cX8_hash 40 = .ok (.getfield 19, 3) := by decide +kernel
theorem dX8_hash_43 : decode cX8_hash 43 = .ok (.getfield 207, 3) := by decide +kernel
theorem dX8_hash_46 : decode cX8_hash 46 = .ok (.goto 10, 3) := by decide +kernel
theorem dX8_hash_49 : decode cX8_hash 49 = .ok (.aload_n 0, 1) := by decide +kernel
theorem dX8_hash_50 : decode cX8_hash 50 = .ok (.getfield 19, 3) := by decide +kernel
theorem dX8_hash_53 : decode cX8_hash 53 = .ok (.getfield 210, 3) := by decide +kernel
theorem dX8_hash_56 : decode cX8_hash 56 = .ok (.lreturn, 1) := by decide +kernel
set_option maxRecDepth 20000 in
theorem ggX8_count_X3_leaves : GoodIn wsX8_count wsX3_leaves := goodIn_r _ [13, 14, 31, 32, 33, 34] (by decide +kernel) (by decide +kernel)
set_option maxRecDepth 20000 in
theorem gX8_count_X3_leaves : GoodIn wsX8_count (wsV RX8 79 RX3 yX3_leaves wsX3_leaves) := goodIn_app (goodIn_of _ (by decide +kernel)) ggX8_count_X3_leaves
theorem dX8_count_0 : decode cX8_count 0 = .ok (.iload_n 1, 1) := by decide +kernel
theorem dX8_count_1 : decode cX8_count 1 = .ok (.tableswitch 72 0 4 #[35, 43, 51, 56, 64], 35) := by decide +kernel
theorem dX8_count_36 : decode cX8_count 36 = .ok (.aload_n 0, 1) := by decide +kernel
theorem dX8_count_37 : decode cX8_count 37 = .ok (.getfield 10, 3) := by decide +kernel
theorem dX8_count_40 : decode cX8_count 40 = .ok (.invokevirtual 79, 3) := by decide +kernel
theorem dX8_count_43 : decode cX8_count 43 = .ok (.ireturn, 1) := by decide +kernel
theorem dX8_count_44 : decode cX8_count 44 = .ok (.aload_n 0, 1) := by decide +kernel
theorem dX8_count_45 : decode cX8_count 45 = .ok (.getfield 33, 3) := by decide +kernel
theorem dX8_count_48 : decode cX8_count 48 = .ok (.getfield 83, 3) := by decide +kernel
theorem dX8_count_51 : decode cX8_count 51 = .ok (.ireturn, 1) := by decide +kernel
theorem dX8_count_52 : decode cX8_count 52 = .ok (.aload_n 0, 1) := by decide +kernel
theorem dX8_count_53 : decode cX8_count 53 = .ok (.getfield 67, 3) := by decide +kernel
theorem dX8_count_56 : decode cX8_count 56 = .ok (.ireturn, 1) := by decide +kernel
theorem dX8_count_57 : decode cX8_count 57 = .ok (.aload_n 0, 1) := by decide +kernel
theorem dX8_count_58 : decode cX8_count 58 = .ok (.getfield 40, 3) := by decide +kernel
theorem dX8_count_61 : decode cX8_count 61 = .ok (.getfield 141, 3) := by decide +kernel
theorem dX8_count_64 : decode cX8_count 64 = .ok (.ireturn, 1) := by decide +kernel
theorem dX8_count_65 : decode cX8_count 65 = .ok (.aload_n 0, 1) := by decide +kernel
theorem dX8_count_66 : decode cX8_count 66 = .ok (.getfield 54, 3) := by decide +kernel
theorem dX8_count_69 : decode cX8_count 69 = .ok (.getfield 213, 3) := by decide +kernel
theorem dX8_count_72 : decode cX8_count 72 = .ok (.ireturn, 1) := by decide +kernel
theorem dX8_count_73 : decode cX8_count 73 = .ok (.iconst (-1), 1) := by decide +kernel
theorem dX8_count_74 : decode cX8_count 74 = .ok (.ireturn, 1) := by decide +kernel
set_option maxRecDepth 20000 in
theorem ggX8_check_X7_hashNode : GoodIn wsX8_check wsX7_hashNode := goodIn_r _ [11, 12, 13, 14, 15, 16, 17, 18, 19, 20, 21, 22, 23, 24, 25, 26, 27, 28, 29, 30, 31, 32, 33, 34, 35, 36, 10, 37, 38, 39, 40, 41, 42, 43, 44, 45, 46, 47, 62, 63, 64, 65, 66, 67, 68, 69, 70] (by decide +kernel) (by decide +kernel)
set_option maxRecDepth 20000 in
theorem gX8_check_X7_hashNode : GoodIn wsX8_check (wsV RX8 214 RX7 yX7_hashNode wsX7_hashNode) := goodIn_app (goodIn_of _ (by decide +kernel)) ggX8_check_X7_hashNode
set_option maxRecDepth 20000 in
theorem ggX8_check_X7_slot : GoodIn wsX8_check wsX7_slot := goodIn_r _ [37] (by decide +kernel) (by decide +kernel)
set_option maxRecDepth 20000 in
theorem gX8_check_X7_slot : GoodIn wsX8_check (va_wsS RX8 125 yX7_slot wsX7_slot) := goodIn_app (goodIn_of _ (by decide +kernel)) ggX8_check_X7_slot
set_option maxRecDepth 20000 in
theorem ggX8_check_X2_gave : GoodIn wsX8_check wsX2_gave := goodIn_r _ [52, 24, 25, 42, 43, 44, 45, 46, 47, 68, 69, 70] (by decide +kernel) (by decide +kernel)
set_option maxRecDepth 20000 in
theorem gX8_check_X2_gave : GoodIn wsX8_check (wsV RX8 196 RX2 yX2_gave wsX2_gave) := goodIn_app (goodIn_of _ (by decide +kernel)) ggX8_check_X2_gave
theorem dX8_check_0 : decode cX8_check 0 = .ok (.iconst 1, 1) := by decide +kernel
theorem dX8_check_1 : decode cX8_check 1 = .ok (.istore_n 1, 1) := by decide +kernel
theorem dX8_check_2 : decode cX8_check 2 = .ok (.iload_n 1, 1) := by decide +kernel
theorem dX8_check_3 : decode cX8_check 3 = .ok (.aload_n 0, 1) := by decide +kernel
theorem dX8_check_4 : decode cX8_check 4 = .ok (.getfield 10, 3) := by decide +kernel
theorem dX8_check_7 : decode cX8_check 7 = .ok (.getfield 115, 3) := by decide +kernel
theorem dX8_check_10 : decode cX8_check 10 = .ok (.if_icmp .gt 80, 3) := by decide +kernel
theorem dX8_check_13 : decode cX8_check 13 = .ok (.aload_n 0, 1) := by decide +kernel
theorem dX8_check_14 : decode cX8_check 14 = .ok (.getfield 33, 3) := by decide +kernel
theorem dX8_check_17 : decode cX8_check 17 = .ok (.getfield 83, 3) := by decide +kernel
theorem dX8_check_20 : decode cX8_check 20 = .ok (.iload_n 1, 1) := by decide +kernel
theorem dX8_check_21 : decode cX8_check 21 = .ok (.ishr, 1) := by decide +kernel
theorem dX8_check_22 : decode cX8_check 22 = .ok (.istore_n 2, 1) := by decide +kernel
theorem dX8_check_23 : decode cX8_check 23 = .ok (.iconst 0, 1) := by decide +kernel
theorem dX8_check_24 : decode cX8_check 24 = .ok (.istore_n 3, 1) := by decide +kernel
theorem dX8_check_25 : decode cX8_check 25 = .ok (.iload_n 3, 1) := by decide +kernel
theorem dX8_check_26 : decode cX8_check 26 = .ok (.iload_n 2, 1) := by decide +kernel
theorem dX8_check_27 : decode cX8_check 27 = .ok (.if_icmp .ge 57, 3) := by decide +kernel
theorem dX8_check_30 : decode cX8_check 30 = .ok (.aload_n 0, 1) := by decide +kernel
theorem dX8_check_31 : decode cX8_check 31 = .ok (.getfield 33, 3) := by decide +kernel
theorem dX8_check_34 : decode cX8_check 34 = .ok (.aload_n 0, 1) := by decide +kernel
theorem dX8_check_35 : decode cX8_check 35 = .ok (.getfield 10, 3) := by decide +kernel
theorem dX8_check_38 : decode cX8_check 38 = .ok (.iload_n 1, 1) := by decide +kernel
theorem dX8_check_39 : decode cX8_check 39 = .ok (.iload_n 3, 1) := by decide +kernel
theorem dX8_check_40 : decode cX8_check 40 = .ok (.aload_n 0, 1) := by decide +kernel
theorem dX8_check_41 : decode cX8_check 41 = .ok (.getfield 19, 3) := by decide +kernel
theorem dX8_check_44 : decode cX8_check 44 = .ok (.invokevirtual 214, 3) := by decide +kernel
theorem dX8_check_47 : decode cX8_check 47 = .ok (.aload_n 0, 1) := by decide +kernel
theorem dX8_check_48 : decode cX8_check 48 = .ok (.getfield 19, 3) := by decide +kernel
theorem dX8_check_51 : decode cX8_check 51 = .ok (.aload_n 0, 1) := by decide +kernel
theorem dX8_check_52 : decode cX8_check 52 = .ok (.getfield 33, 3) := by decide +kernel
theorem dX8_check_55 : decode cX8_check 55 = .ok (.getfield 122, 3) := by decide +kernel
theorem dX8_check_58 : decode cX8_check 58 = .ok (.aload_n 0, 1) := by decide +kernel
theorem dX8_check_59 : decode cX8_check 59 = .ok (.getfield 10, 3) := by decide +kernel
theorem dX8_check_62 : decode cX8_check 62 = .ok (.getfield 115, 3) := by decide +kernel
theorem dX8_check_65 : decode cX8_check 65 = .ok (.iload_n 1, 1) := by decide +kernel
theorem dX8_check_66 : decode cX8_check 66 = .ok (.iload_n 3, 1) := by decide +kernel
theorem dX8_check_67 : decode cX8_check 67 = .ok (.invokestatic 125, 3) := by decide +kernel
theorem dX8_check_70 : decode cX8_check 70 = .ok (.invokevirtual 196, 3) := by decide +kernel
theorem dX8_check_73 : decode cX8_check 73 = .ok (.ifCond .ne 5, 3) := by decide +kernel
theorem dX8_check_76 : decode cX8_check 76 = .ok (.iconst 0, 1) := by decide +kernel
theorem dX8_check_77 : decode cX8_check 77 = .ok (.ireturn, 1) := by decide +kernel
theorem dX8_check_78 : decode cX8_check 78 = .ok (.iinc 3 1, 3) := by decide +kernel
theorem dX8_check_81 : decode cX8_check 81 = .ok (.goto (-56), 3) := by decide +kernel
theorem dX8_check_84 : decode cX8_check 84 = .ok (.iinc 1 1, 3) := by decide +kernel
theorem dX8_check_87 : decode cX8_check 87 = .ok (.goto (-85), 3) := by decide +kernel
theorem dX8_check_90 : decode cX8_check 90 = .ok (.iconst 1, 1) := by decide +kernel
theorem dX8_check_91 : decode cX8_check 91 = .ok (.ireturn, 1) := by decide +kernel
theorem dX8_isHalf_0 : decode cX8_isHalf 0 = .ok (.iload_n 0, 1) := by decide +kernel
theorem dX8_isHalf_1 : decode cX8_isHalf 1 = .ok (.ifCond .eq 8, 3) := by decide +kernel
theorem dX8_isHalf_4 : decode cX8_isHalf 4 = .ok (.iload_n 0, 1) := by decide +kernel
theorem dX8_isHalf_5 : decode cX8_isHalf 5 = .ok (.iconst 1, 1) := by decide +kernel
theorem dX8_isHalf_6 : decode cX8_isHalf 6 = .ok (.if_icmp .ne 7, 3) := by decide +kernel
theorem dX8_isHalf_9 : decode cX8_isHalf 9 = .ok (.iconst 1, 1) := by decide +kernel
theorem dX8_isHalf_10 : decode cX8_isHalf 10 = .ok (.goto 4, 3) := by decide +kernel
theorem dX8_isHalf_13 : decode cX8_isHalf 13 = .ok (.iconst 0, 1) := by decide +kernel
theorem dX8_isHalf_14 : decode cX8_isHalf 14 = .ok (.ireturn, 1) := by decide +kernel
set_option maxRecDepth 20000 in
theorem ggX8_isRootMade_X7_isMade : GoodIn wsX8_isRootMade wsX7_isMade := goodIn_r _ [8, 9, 23, 24] (by decide +kernel) (by decide +kernel)
set_option maxRecDepth 20000 in
theorem gX8_isRootMade_X7_isMade : GoodIn wsX8_isRootMade (wsV RX8 118 RX7 yX7_isMade wsX7_isMade) := goodIn_app (goodIn_of _ (by decide +kernel)) ggX8_isRootMade_X7_isMade
theorem dX8_isRootMade_0 : decode cX8_isRootMade 0 = .ok (.aload_n 0, 1) := by decide +kernel
theorem dX8_isRootMade_1 : decode cX8_isRootMade 1 = .ok (.getfield 33, 3) := by decide +kernel
theorem dX8_isRootMade_4 : decode cX8_isRootMade 4 = .ok (.aload_n 0, 1) := by decide +kernel
theorem dX8_isRootMade_5 : decode cX8_isRootMade 5 = .ok (.getfield 10, 3) := by decide +kernel
theorem dX8_isRootMade_8 : decode cX8_isRootMade 8 = .ok (.getfield 115, 3) := by decide +kernel
theorem dX8_isRootMade_11 : decode cX8_isRootMade 11 = .ok (.aload_n 0, 1) := by decide +kernel
theorem dX8_isRootMade_12 : decode cX8_isRootMade 12 = .ok (.getfield 10, 3) := by decide +kernel
theorem dX8_isRootMade_15 : decode cX8_isRootMade 15 = .ok (.getfield 115, 3) := by decide +kernel
theorem dX8_isRootMade_18 : decode cX8_isRootMade 18 = .ok (.iconst 0, 1) := by decide +kernel
theorem dX8_isRootMade_19 : decode cX8_isRootMade 19 = .ok (.invokevirtual 118, 3) := by decide +kernel
theorem dX8_isRootMade_22 : decode cX8_isRootMade 22 = .ok (.ireturn, 1) := by decide +kernel
set_option maxRecDepth 20000 in
theorem ggX8_readDigits_X2_start : GoodIn wsX8_readDigits wsX2_start := goodIn_r _ [13, 14, 15, 66, 67] (by decide +kernel) (by decide +kernel)
set_option maxRecDepth 20000 in
theorem gX8_readDigits_X2_start : GoodIn wsX8_readDigits (wsV RX8 200 RX2 yX2_start wsX2_start) := goodIn_app (goodIn_of _ (by decide +kernel)) ggX8_readDigits_X2_start
set_option maxRecDepth 20000 in
theorem ggX8_readDigits_X2_add : GoodIn wsX8_readDigits wsX2_add := goodIn_r _ [19, 14, 15, 20, 21, 12, 22, 23, 24, 66, 67] (by decide +kernel) (by decide +kernel)
set_option maxRecDepth 20000 in
theorem gX8_readDigits_X2_add : GoodIn wsX8_readDigits (wsV RX8 218 RX2 yX2_add wsX2_add) := goodIn_app (goodIn_of _ (by decide +kernel)) ggX8_readDigits_X2_add
set_option maxRecDepth 20000 in
theorem ggX8_readDigits_X2_addPair : GoodIn wsX8_readDigits wsX2_addPair := goodIn_r _ [28, 29, 30, 31, 32, 33, 34, 35, 17, 18, 12, 19, 14, 15, 20, 21, 22, 23, 24, 68, 66, 67] (by decide +kernel) (by decide +kernel)
set_option maxRecDepth 20000 in
theorem gX8_readDigits_X2_addPair : GoodIn wsX8_readDigits (wsV RX8 221 RX2 yX2_addPair wsX2_addPair) := goodIn_app (goodIn_of _ (by decide +kernel)) ggX8_readDigits_X2_addPair
set_option maxRecDepth 20000 in
theorem ggX8_readDigits_X2_addMessage : GoodIn wsX8_readDigits wsX2_addMessage := goodIn_r _ [39, 40, 41, 35, 17, 18, 12, 19, 14, 15, 20, 21, 22, 23, 24, 60, 61, 66, 67] (by decide +kernel) (by decide +kernel)
set_option maxRecDepth 20000 in
theorem gX8_readDigits_X2_addMessage : GoodIn wsX8_readDigits (wsV RX8 203 RX2 yX2_addMessage wsX2_addMessage) := goodIn_app (goodIn_of _ (by decide +kernel)) ggX8_readDigits_X2_addMessage
set_option maxRecDepth 20000 in
theorem ggX8_readDigits_X1_read : GoodIn wsX8_readDigits wsX1_read := goodIn_r _ [46, 47, 48, 49, 45, 50, 69] (by decide +kernel) (by decide +kernel)
set_option maxRecDepth 20000 in
theorem gX8_readDigits_X1_read : GoodIn wsX8_readDigits (wsV RX8 225 RX1 yX1_read wsX1_read) := goodIn_app (goodIn_of _ (by decide +kernel)) ggX8_readDigits_X1_read
theorem dX8_readDigits_0 : decode cX8_readDigits 0 = .ok (.aload_n 0, 1) := by decide +kernel
theorem dX8_readDigits_1 : decode cX8_readDigits 1 = .ok (.getfield 19, 3) := by decide +kernel
theorem dX8_readDigits_4 : decode cX8_readDigits 4 = .ok (.iconst 5, 1) := by decide +kernel
theorem dX8_readDigits_5 : decode cX8_readDigits 5 = .ok (.iconst 4, 1) := by decide +kernel
theorem dX8_readDigits_6 : decode cX8_readDigits 6 = .ok (.aload_n 0, 1) := by decide +kernel
theorem dX8_readDigits_7 : decode cX8_readDigits 7 = .ok (.getfield 40, 3) := by decide +kernel
theorem dX8_readDigits_10 : decode cX8_readDigits 10 = .ok (.getfield 141, 3) := by decide +kernel
theorem dX8_readDigits_13 : decode cX8_readDigits 13 = .ok (.iadd, 1) := by decide +kernel
theorem dX8_readDigits_14 : decode cX8_readDigits 14 = .ok (.invokevirtual 200, 3) := by decide +kernel
theorem dX8_readDigits_17 : decode cX8_readDigits 17 = .ok (.aload_n 0, 1) := by decide +kernel
theorem dX8_readDigits_18 : decode cX8_readDigits 18 = .ok (.getfield 19, 3) := by decide +kernel
theorem dX8_readDigits_21 : decode cX8_readDigits 21 = .ok (.aload_n 0, 1) := by decide +kernel
theorem dX8_readDigits_22 : decode cX8_readDigits 22 = .ok (.getfield 10, 3) := by decide +kernel
theorem dX8_readDigits_25 : decode cX8_readDigits 25 = .ok (.getfield 96, 3) := by decide +kernel
theorem dX8_readDigits_28 : decode cX8_readDigits 28 = .ok (.invokevirtual 218, 3) := by decide +kernel
theorem dX8_readDigits_31 : decode cX8_readDigits 31 = .ok (.aload_n 0, 1) := by decide +kernel
theorem dX8_readDigits_32 : decode cX8_readDigits 32 = .ok (.getfield 19, 3) := by decide +kernel
theorem dX8_readDigits_35 : decode cX8_readDigits 35 = .ok (.iload_n 1, 1) := by decide +kernel
theorem dX8_readDigits_36 : decode cX8_readDigits 36 = .ok (.i2l, 1) := by decide +kernel
theorem dX8_readDigits_37 : decode cX8_readDigits 37 = .ok (.invokevirtual 218, 3) := by decide +kernel
theorem dX8_readDigits_40 : decode cX8_readDigits 40 = .ok (.aload_n 0, 1) := by decide +kernel
theorem dX8_readDigits_41 : decode cX8_readDigits 41 = .ok (.getfield 19, 3) := by decide +kernel
theorem dX8_readDigits_44 : decode cX8_readDigits 44 = .ok (.aload_n 2, 1) := by decide +kernel
theorem dX8_readDigits_45 : decode cX8_readDigits 45 = .ok (.iload_n 3, 1) := by decide +kernel
theorem dX8_readDigits_46 : decode cX8_readDigits 46 = .ok (.invokevirtual 221, 3) := by decide +kernel
theorem dX8_readDigits_49 : decode cX8_readDigits 49 = .ok (.aload_n 0, 1) := by decide +kernel
theorem dX8_readDigits_50 : decode cX8_readDigits 50 = .ok (.getfield 19, 3) := by decide +kernel
theorem dX8_readDigits_53 : decode cX8_readDigits 53 = .ok (.aload_n 0, 1) := by decide +kernel
theorem dX8_readDigits_54 : decode cX8_readDigits 54 = .ok (.getfield 40, 3) := by decide +kernel
theorem dX8_readDigits_57 : decode cX8_readDigits 57 = .ok (.invokevirtual 203, 3) := by decide +kernel
theorem dX8_readDigits_60 : decode cX8_readDigits 60 = .ok (.aload_n 0, 1) := by decide +kernel
theorem dX8_readDigits_61 : decode cX8_readDigits 61 = .ok (.getfield 47, 3) := by decide +kernel
theorem dX8_readDigits_64 : decode cX8_readDigits 64 = .ok (.aload_n 0, 1) := by decide +kernel
theorem dX8_readDigits_65 : decode cX8_readDigits 65 = .ok (.getfield 19, 3) := by decide +kernel
theorem dX8_readDigits_68 : decode cX8_readDigits 68 = .ok (.getfield 207, 3) := by decide +kernel
theorem dX8_readDigits_71 : decode cX8_readDigits 71 = .ok (.aload_n 0, 1) := by decide +kernel
theorem dX8_readDigits_72 : decode cX8_readDigits 72 = .ok (.getfield 19, 3) := by decide +kernel
theorem dX8_readDigits_75 : decode cX8_readDigits 75 = .ok (.getfield 210, 3) := by decide +kernel
theorem dX8_readDigits_78 : decode cX8_readDigits 78 = .ok (.invokevirtual 225, 3) := by decide +kernel
theorem dX8_readDigits_81 : decode cX8_readDigits 81 = .ok (.return_, 1) := by decide +kernel
set_option maxRecDepth 20000 in
theorem ggX8_climbToRoot_X2_startNode : GoodIn wsX8_climbToRoot wsX2_startNode := goodIn_r _ [14, 15, 16, 17, 13, 18, 19, 20, 21, 22, 23, 24, 25, 26, 27, 28, 29, 54, 55] (by decide +kernel) (by decide +kernel)
set_option maxRecDepth 20000 in
theorem gX8_climbToRoot_X2_startNode : GoodIn wsX8_climbToRoot (wsV RX8 229 RX2 yX2_startNode wsX2_startNode) := goodIn_app (goodIn_of _ (by decide +kernel)) ggX8_climbToRoot_X2_startNode
set_option maxRecDepth 20000 in
theorem ggX8_climbToRoot_X2_add : GoodIn wsX8_climbToRoot wsX2_add := goodIn_r _ [24, 19, 20, 25, 26, 13, 27, 28, 29, 54, 55] (by decide +kernel) (by decide +kernel)
set_option maxRecDepth 20000 in
theorem gX8_climbToRoot_X2_add : GoodIn wsX8_climbToRoot (wsV RX8 218 RX2 yX2_add wsX2_add) := goodIn_app (goodIn_of _ (by decide +kernel)) ggX8_climbToRoot_X2_add
set_option maxRecDepth 20000 in
theorem ggX8_climbToRoot_X2_addPair : GoodIn wsX8_climbToRoot wsX2_addPair := goodIn_r _ [34, 35, 36, 37, 38, 39, 40, 21, 22, 23, 13, 24, 19, 20, 25, 26, 27, 28, 29, 59, 54, 55] (by decide +kernel) (by decide +kernel)
set_option maxRecDepth 20000 in
theorem gX8_climbToRoot_X2_addPair : GoodIn wsX8_climbToRoot (wsV RX8 221 RX2 yX2_addPair wsX2_addPair) := goodIn_app (goodIn_of _ (by decide +kernel)) ggX8_climbToRoot_X2_addPair
theorem dX8_climbToRoot_0 : decode cX8_climbToRoot 0 = .ok (.iconst 1, 1) := by decide +kernel
theorem dX8_climbToRoot_1 : decode cX8_climbToRoot 1 = .ok (.istore_n 1, 1) := by decide +kernel
theorem dX8_climbToRoot_2 : decode cX8_climbToRoot 2 = .ok (.iload_n 1, 1) := by decide +kernel
theorem dX8_climbToRoot_3 : decode cX8_climbToRoot 3 = .ok (.aload_n 0, 1) := by decide +kernel
theorem dX8_climbToRoot_4 : decode cX8_climbToRoot 4 = .ok (.getfield 10, 3) := by decide +kernel
theorem dX8_climbToRoot_7 : decode cX8_climbToRoot 7 = .ok (.getfield 115, 3) := by decide +kernel
theorem dX8_climbToRoot_10 : decode cX8_climbToRoot 10 = .ok (.if_icmp .gt 142, 3) := by decide +kernel
theorem dX8_climbToRoot_13 : decode cX8_climbToRoot 13 = .ok (.aload_n 0, 1) := by decide +kernel
theorem dX8_climbToRoot_14 : decode cX8_climbToRoot 14 = .ok (.getfield 19, 3) := by decide +kernel
theorem dX8_climbToRoot_17 : decode cX8_climbToRoot 17 = .ok (.getfield 207, 3) := by decide +kernel
theorem dX8_climbToRoot_20 : decode cX8_climbToRoot 20 = .ok (.lstore_n 2, 1) := by decide +kernel
theorem dX8_climbToRoot_21 : decode cX8_climbToRoot 21 = .ok (.aload_n 0, 1) := by decide +kernel
theorem dX8_climbToRoot_22 : decode cX8_climbToRoot 22 = .ok (.getfield 19, 3) := by decide +kernel
theorem dX8_climbToRoot_25 : decode cX8_climbToRoot 25 = .ok (.getfield 210, 3) := by decide +kernel
theorem dX8_climbToRoot_28 : decode cX8_climbToRoot 28 = .ok (.lstore 4, 2) := by decide +kernel
theorem dX8_climbToRoot_30 : decode cX8_climbToRoot 30 = .ok (.aload_n 0, 1) := by decide +kernel
theorem dX8_climbToRoot_31 : decode cX8_climbToRoot 31 = .ok (.getfield 54, 3) := by decide +kernel
theorem dX8_climbToRoot_34 : decode cX8_climbToRoot 34 = .ok (.getfield 176, 3) := by decide +kernel
theorem dX8_climbToRoot_37 : decode cX8_climbToRoot 37 = .ok (.iload_n 1, 1) := by decide +kernel
theorem dX8_climbToRoot_38 : decode cX8_climbToRoot 38 = .ok (.iconst 1, 1) := by decide +kernel
theorem dX8_climbToRoot_39 : decode cX8_climbToRoot 39 = .ok (.isub, 1) := by decide +kernel
theorem dX8_climbToRoot_40 : decode cX8_climbToRoot 40 = .ok (.ishr, 1) := by decide +kernel
theorem dX8_climbToRoot_41 : decode cX8_climbToRoot 41 = .ok (.istore 6, 2) := by decide +kernel
theorem dX8_climbToRoot_43 : decode cX8_climbToRoot 43 = .ok (.bipush 35, 2) := by decide +kernel
theorem dX8_climbToRoot_45 : decode cX8_climbToRoot 45 = .ok (.iload_n 1, 1) := by decide +kernel
theorem dX8_climbToRoot_46 : decode cX8_climbToRoot 46 = .ok (.iadd, 1) := by decide +kernel
theorem dX8_climbToRoot_47 : decode cX8_climbToRoot 47 = .ok (.iconst 1, 1) := by decide +kernel
theorem dX8_climbToRoot_48 : decode cX8_climbToRoot 48 = .ok (.isub, 1) := by decide +kernel
theorem dX8_climbToRoot_49 : decode cX8_climbToRoot 49 = .ok (.istore 7, 2) := by decide +kernel
theorem dX8_climbToRoot_51 : decode cX8_climbToRoot 51 = .ok (.aload_n 0, 1) := by decide +kernel
theorem dX8_climbToRoot_52 : decode cX8_climbToRoot 52 = .ok (.getfield 19, 3) := by decide +kernel
theorem dX8_climbToRoot_55 : decode cX8_climbToRoot 55 = .ok (.aload_n 0, 1) := by decide +kernel
theorem dX8_climbToRoot_56 : decode cX8_climbToRoot 56 = .ok (.getfield 10, 3) := by decide +kernel
theorem dX8_climbToRoot_59 : decode cX8_climbToRoot 59 = .ok (.getfield 96, 3) := by decide +kernel
theorem dX8_climbToRoot_62 : decode cX8_climbToRoot 62 = .ok (.iload_n 1, 1) := by decide +kernel
theorem dX8_climbToRoot_63 : decode cX8_climbToRoot 63 = .ok (.iload 6, 2) := by decide +kernel
theorem dX8_climbToRoot_65 : decode cX8_climbToRoot 65 = .ok (.iconst 1, 1) := by decide +kernel
theorem dX8_climbToRoot_66 : decode cX8_climbToRoot 66 = .ok (.ishr, 1) := by decide +kernel
theorem dX8_climbToRoot_67 : decode cX8_climbToRoot 67 = .ok (.invokevirtual 229, 3) := by decide +kernel
theorem dX8_climbToRoot_70 : decode cX8_climbToRoot 70 = .ok (.iload 6, 2) := by decide +kernel
theorem dX8_climbToRoot_72 : decode cX8_climbToRoot 72 = .ok (.iconst 1, 1) := by decide +kernel
theorem dX8_climbToRoot_73 : decode cX8_climbToRoot 73 = .ok (.iand, 1) := by decide +kernel
theorem dX8_climbToRoot_74 : decode cX8_climbToRoot 74 = .ok (.ifCond .ne 39, 3) := by decide +kernel
theorem dX8_climbToRoot_77 : decode cX8_climbToRoot 77 = .ok (.aload_n 0, 1) := by decide +kernel
theorem dX8_climbToRoot_78 : decode cX8_climbToRoot 78 = .ok (.getfield 19, 3) := by decide +kernel
theorem dX8_climbToRoot_81 : decode cX8_climbToRoot 81 = .ok (.lload_n 2, 1) := by decide +kernel
theorem dX8_climbToRoot_82 : decode cX8_climbToRoot 82 = .ok (.invokevirtual 218, 3) := by decide +kernel
theorem dX8_climbToRoot_85 : decode cX8_climbToRoot 85 = .ok (.aload_n 0, 1) := by decide +kernel
theorem dX8_climbToRoot_86 : decode cX8_climbToRoot 86 = .ok (.getfield 19, 3) := by decide +kernel
theorem dX8_climbToRoot_89 : decode cX8_climbToRoot 89 = .ok (.lload 4, 2) := by decide +kernel
theorem dX8_climbToRoot_91 : decode cX8_climbToRoot 91 = .ok (.invokevirtual 218, 3) := by decide +kernel
theorem dX8_climbToRoot_94 : decode cX8_climbToRoot 94 = .ok (.aload_n 0, 1) := by decide +kernel
theorem dX8_climbToRoot_95 : decode cX8_climbToRoot 95 = .ok (.getfield 19, 3) := by decide +kernel
theorem dX8_climbToRoot_98 : decode cX8_climbToRoot 98 = .ok (.aload_n 0, 1) := by decide +kernel
theorem dX8_climbToRoot_99 : decode cX8_climbToRoot 99 = .ok (.getfield 54, 3) := by decide +kernel
theorem dX8_climbToRoot_102 : decode cX8_climbToRoot 102 = .ok (.getfield 162, 3) := by decide +kernel
theorem dX8_climbToRoot_105 : decode cX8_climbToRoot 105 = .ok (.iload 7, 2) := by decide +kernel
theorem dX8_climbToRoot_107 : decode cX8_climbToRoot 107 = .ok (.invokevirtual 221, 3) := by decide +kernel
theorem dX8_climbToRoot_110 : decode cX8_climbToRoot 110 = .ok (.goto 36, 3) := by decide +kernel
theorem dX8_climbToRoot_113 : decode cX8_climbToRoot 113 = .ok (.aload_n 0, 1) := by decide +kernel
theorem dX8_climbToRoot_114 : decode cX8_climbToRoot 114 = .ok (.getfield 19, 3) := by decide +kernel
theorem dX8_climbToRoot_117 : decode cX8_climbToRoot 117 = .ok (.aload_n 0, 1) := by decide +kernel
theorem dX8_climbToRoot_118 : decode cX8_climbToRoot 118 = .ok (.getfield 54, 3) := by decide +kernel
theorem dX8_climbToRoot_121 : decode cX8_climbToRoot 121 = .ok (.getfield 162, 3) := by decide +kernel
theorem dX8_climbToRoot_124 : decode cX8_climbToRoot 124 = .ok (.iload 7, 2) := by decide +kernel
theorem dX8_climbToRoot_126 : decode cX8_climbToRoot 126 = .ok (.invokevirtual 221, 3) := by decide +kernel
theorem dX8_climbToRoot_129 : decode cX8_climbToRoot 129 = .ok (.aload_n 0, 1) := by decide +kernel
theorem dX8_climbToRoot_130 : decode cX8_climbToRoot 130 = .ok (.getfield 19, 3) := by decide +kernel
theorem dX8_climbToRoot_133 : decode cX8_climbToRoot 133 = .ok (.lload_n 2, 1) := by decide +kernel
theorem dX8_climbToRoot_134 : decode cX8_climbToRoot 134 = .ok (.invokevirtual 218, 3) := by decide +kernel
theorem dX8_climbToRoot_137 : decode cX8_climbToRoot 137 = .ok (.aload_n 0, 1) := by decide +kernel
theorem dX8_climbToRoot_138 : decode cX8_climbToRoot 138 = .ok (.getfield 19, 3) := by decide +kernel
theorem dX8_climbToRoot_141 : decode cX8_climbToRoot 141 = .ok (.lload 4, 2) := by decide +kernel
theorem dX8_climbToRoot_143 : decode cX8_climbToRoot 143 = .ok (.invokevirtual 218, 3) := by decide +kernel
theorem dX8_climbToRoot_146 : decode cX8_climbToRoot 146 = .ok (.iinc 1 1, 3) := by decide +kernel
theorem dX8_climbToRoot_149 : decode cX8_climbToRoot 149 = .ok (.goto (-147), 3) := by decide +kernel
theorem dX8_climbToRoot_152 : decode cX8_climbToRoot 152 = .ok (.return_, 1) := by decide +kernel

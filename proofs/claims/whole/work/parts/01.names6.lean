set_option maxRecDepth 20000 in
theorem ggX9_findDigits_X9_take : GoodIn wsX9_findDigits wsX9_take := goodIn_r _ [12, 5, 6, 22, 23, 24, 25, 26, 27, 28, 29, 30, 31, 32, 33, 34, 35, 36, 37, 38, 39, 40, 41, 42] (by decide +kernel) (by decide +kernel)
set_option maxRecDepth 20000 in
theorem gX9_findDigits_X9_take : GoodIn wsX9_findDigits (wsV RX9 56 RX9 yX9_take wsX9_take) := goodIn_app (goodIn_of _ (by decide +kernel)) ggX9_findDigits_X9_take
set_option maxRecDepth 20000 in
theorem ggX9_findDigits_X9_put : GoodIn wsX9_findDigits wsX9_put := goodIn_r _ [16, 5, 6, 17, 18, 11, 19, 20, 21, 22, 23, 24, 25, 26, 27, 28, 29, 30, 31, 32, 33, 34, 35, 36, 37, 38, 39, 40, 41, 42] (by decide +kernel) (by decide +kernel)
set_option maxRecDepth 20000 in
theorem gX9_findDigits_X9_put : GoodIn wsX9_findDigits (wsV RX9 63 RX9 yX9_put wsX9_put) := goodIn_app (goodIn_of _ (by decide +kernel)) ggX9_findDigits_X9_put
theorem dX9_findDigits_0 : decode cX9_findDigits 0 = .ok (.aload_n 0, 1) := by decide +kernel
theorem dX9_findDigits_1 : decode cX9_findDigits 1 = .ok (.ldc2_w 118, 3) := by decide +kernel
theorem dX9_findDigits_4 : decode cX9_findDigits 4 = .ok (.iconst 4, 1) := by decide +kernel
theorem dX9_findDigits_5 : decode cX9_findDigits 5 = .ok (.aload_n 0, 1) := by decide +kernel
theorem dX9_findDigits_6 : decode cX9_findDigits 6 = .ok (.getfield 115, 3) := by decide +kernel
theorem dX9_findDigits_9 : decode cX9_findDigits 9 = .ok (.iadd, 1) := by decide +kernel
theorem dX9_findDigits_10 : decode cX9_findDigits 10 = .ok (.invokevirtual 56, 3) := by decide +kernel
theorem dX9_findDigits_13 : decode cX9_findDigits 13 = .ok (.aload_n 0, 1) := by decide +kernel
theorem dX9_findDigits_14 : decode cX9_findDigits 14 = .ok (.aload_n 0, 1) := by decide +kernel
theorem dX9_findDigits_15 : decode cX9_findDigits 15 = .ok (.getfield 60, 3) := by decide +kernel
theorem dX9_findDigits_18 : decode cX9_findDigits 18 = .ok (.invokevirtual 63, 3) := by decide +kernel
theorem dX9_findDigits_21 : decode cX9_findDigits 21 = .ok (.aload_n 0, 1) := by decide +kernel
theorem dX9_findDigits_22 : decode cX9_findDigits 22 = .ok (.iload_n 1, 1) := by decide +kernel
theorem dX9_findDigits_23 : decode cX9_findDigits 23 = .ok (.i2l, 1) := by decide +kernel
theorem dX9_findDigits_24 : decode cX9_findDigits 24 = .ok (.invokevirtual 63, 3) := by decide +kernel
theorem dX9_findDigits_27 : decode cX9_findDigits 27 = .ok (.aload_n 0, 1) := by decide +kernel
theorem dX9_findDigits_28 : decode cX9_findDigits 28 = .ok (.lload_n 2, 1) := by decide +kernel
theorem dX9_findDigits_29 : decode cX9_findDigits 29 = .ok (.invokevirtual 63, 3) := by decide +kernel
theorem dX9_findDigits_32 : decode cX9_findDigits 32 = .ok (.aload_n 0, 1) := by decide +kernel
theorem dX9_findDigits_33 : decode cX9_findDigits 33 = .ok (.lload 4, 2) := by decide +kernel
theorem dX9_findDigits_35 : decode cX9_findDigits 35 = .ok (.invokevirtual 63, 3) := by decide +kernel
theorem dX9_findDigits_38 : decode cX9_findDigits 38 = .ok (.iconst 0, 1) := by decide +kernel
theorem dX9_findDigits_39 : decode cX9_findDigits 39 = .ok (.istore 6, 2) := by decide +kernel
theorem dX9_findDigits_41 : decode cX9_findDigits 41 = .ok (.iload 6, 2) := by decide +kernel
theorem dX9_findDigits_43 : decode cX9_findDigits 43 = .ok (.aload_n 0, 1) := by decide +kernel
theorem dX9_findDigits_44 : decode cX9_findDigits 44 = .ok (.getfield 115, 3) := by decide +kernel
theorem dX9_findDigits_47 : decode cX9_findDigits 47 = .ok (.if_icmp .ge 20, 3) := by decide +kernel
theorem dX9_findDigits_50 : decode cX9_findDigits 50 = .ok (.aload_n 0, 1) := by decide +kernel
theorem dX9_findDigits_51 : decode cX9_findDigits 51 = .ok (.aload_n 0, 1) := by decide +kernel
theorem dX9_findDigits_52 : decode cX9_findDigits 52 = .ok (.getfield 20, 3) := by decide +kernel
theorem dX9_findDigits_55 : decode cX9_findDigits 55 = .ok (.iload 6, 2) := by decide +kernel
theorem dX9_findDigits_57 : decode cX9_findDigits 57 = .ok (.laload, 1) := by decide +kernel
theorem dX9_findDigits_58 : decode cX9_findDigits 58 = .ok (.invokevirtual 63, 3) := by decide +kernel
theorem dX9_findDigits_61 : decode cX9_findDigits 61 = .ok (.iinc 6 1, 3) := by decide +kernel
theorem dX9_findDigits_64 : decode cX9_findDigits 64 = .ok (.goto (-23), 3) := by decide +kernel
theorem dX9_findDigits_67 : decode cX9_findDigits 67 = .ok (.iconst 0, 1) := by decide +kernel
theorem dX9_findDigits_68 : decode cX9_findDigits 68 = .ok (.istore 6, 2) := by decide +kernel
theorem dX9_findDigits_70 : decode cX9_findDigits 70 = .ok (.iconst 0, 1) := by decide +kernel
theorem dX9_findDigits_71 : decode cX9_findDigits 71 = .ok (.istore 7, 2) := by decide +kernel
theorem dX9_findDigits_73 : decode cX9_findDigits 73 = .ok (.iload 7, 2) := by decide +kernel
theorem dX9_findDigits_75 : decode cX9_findDigits 75 = .ok (.bipush 32, 2) := by decide +kernel
theorem dX9_findDigits_77 : decode cX9_findDigits 77 = .ok (.if_icmp .ge 68, 3) := by decide +kernel
theorem dX9_findDigits_80 : decode cX9_findDigits 80 = .ok (.iload 7, 2) := by decide +kernel
theorem dX9_findDigits_82 : decode cX9_findDigits 82 = .ok (.bipush 16, 2) := by decide +kernel
theorem dX9_findDigits_84 : decode cX9_findDigits 84 = .ok (.if_icmp .ge 10, 3) := by decide +kernel
theorem dX9_findDigits_87 : decode cX9_findDigits 87 = .ok (.aload_n 0, 1) := by decide +kernel
theorem dX9_findDigits_88 : decode cX9_findDigits 88 = .ok (.getfield 43, 3) := by decide +kernel
theorem dX9_findDigits_91 : decode cX9_findDigits 91 = .ok (.goto 7, 3) := by decide +kernel
theorem dX9_findDigits_94 : decode cX9_findDigits 94 = .ok (.aload_n 0, 1) := by decide +kernel
theorem dX9_findDigits_95 : decode cX9_findDigits 95 = .ok (.getfield 47, 3) := by decide +kernel
theorem dX9_findDigits_98 : decode cX9_findDigits 98 = .ok (.lstore 8, 2) := by decide +kernel
theorem dX9_findDigits_100 : decode cX9_findDigits 100 = .ok (.aload_n 0, 1) := by decide +kernel
theorem dX9_findDigits_101 : decode cX9_findDigits 101 = .ok (.getfield 35, 3) := by decide +kernel
theorem dX9_findDigits_104 : decode cX9_findDigits 104 = .ok (.iload 7, 2) := by decide +kernel
theorem dX9_findDigits_106 : decode cX9_findDigits 106 = .ok (.lload 8, 2) := by decide +kernel
theorem dX9_findDigits_108 : decode cX9_findDigits 108 = .ok (.bipush 60, 2) := by decide +kernel
theorem dX9_findDigits_110 : decode cX9_findDigits 110 = .ok (.iconst 4, 1) := by decide +kernel
theorem dX9_findDigits_111 : decode cX9_findDigits 111 = .ok (.iload 7, 2) := by decide +kernel
theorem dX9_findDigits_113 : decode cX9_findDigits 113 = .ok (.bipush 16, 2) := by decide +kernel
theorem dX9_findDigits_115 : decode cX9_findDigits 115 = .ok (.irem, 1) := by decide +kernel
theorem dX9_findDigits_116 : decode cX9_findDigits 116 = .ok (.imul, 1) := by decide +kernel
theorem dX9_findDigits_117 : decode cX9_findDigits 117 = .ok (.isub, 1) := by decide +kernel
theorem dX9_findDigits_118 : decode cX9_findDigits 118 = .ok (.lushr, 1) := by decide +kernel
theorem dX9_findDigits_119 : decode cX9_findDigits 119 = .ok (.l2i, 1) := by decide +kernel
theorem dX9_findDigits_120 : decode cX9_findDigits 120 = .ok (.bipush 15, 2) := by decide +kernel
theorem dX9_findDigits_122 : decode cX9_findDigits 122 = .ok (.iand, 1) := by decide +kernel
theorem dX9_findDigits_123 : decode cX9_findDigits 123 = .ok (.iastore, 1) := by decide +kernel
theorem dX9_findDigits_124 : decode cX9_findDigits 124 = .ok (.iload 6, 2) := by decide +kernel
theorem dX9_findDigits_126 : decode cX9_findDigits 126 = .ok (.bipush 15, 2) := by decide +kernel
theorem dX9_findDigits_128 : decode cX9_findDigits 128 = .ok (.aload_n 0, 1) := by decide +kernel
theorem dX9_findDigits_129 : decode cX9_findDigits 129 = .ok (.getfield 35, 3) := by decide +kernel
theorem dX9_findDigits_132 : decode cX9_findDigits 132 = .ok (.iload 7, 2) := by decide +kernel
theorem dX9_findDigits_134 : decode cX9_findDigits 134 = .ok (.iaload, 1) := by decide +kernel
theorem dX9_findDigits_135 : decode cX9_findDigits 135 = .ok (.isub, 1) := by decide +kernel
theorem dX9_findDigits_136 : decode cX9_findDigits 136 = .ok (.iadd, 1) := by decide +kernel
theorem dX9_findDigits_137 : decode cX9_findDigits 137 = .ok (.istore 6, 2) := by decide +kernel
theorem dX9_findDigits_139 : decode cX9_findDigits 139 = .ok (.iinc 7 1, 3) := by decide +kernel
theorem dX9_findDigits_142 : decode cX9_findDigits 142 = .ok (.goto (-69), 3) := by decide +kernel
theorem dX9_findDigits_145 : decode cX9_findDigits 145 = .ok (.aload_n 0, 1) := by decide +kernel
theorem dX9_findDigits_146 : decode cX9_findDigits 146 = .ok (.getfield 35, 3) := by decide +kernel
theorem dX9_findDigits_149 : decode cX9_findDigits 149 = .ok (.bipush 32, 2) := by decide +kernel
theorem dX9_findDigits_151 : decode cX9_findDigits 151 = .ok (.iload 6, 2) := by decide +kernel
theorem dX9_findDigits_153 : decode cX9_findDigits 153 = .ok (.sipush 256, 3) := by decide +kernel
theorem dX9_findDigits_156 : decode cX9_findDigits 156 = .ok (.idiv, 1) := by decide +kernel
theorem dX9_findDigits_157 : decode cX9_findDigits 157 = .ok (.iastore, 1) := by decide +kernel
theorem dX9_findDigits_158 : decode cX9_findDigits 158 = .ok (.aload_n 0, 1) := by decide +kernel
theorem dX9_findDigits_159 : decode cX9_findDigits 159 = .ok (.getfield 35, 3) := by decide +kernel
theorem dX9_findDigits_162 : decode cX9_findDigits 162 = .ok (.bipush 33, 2) := by decide +kernel
theorem dX9_findDigits_164 : decode cX9_findDigits 164 = .ok (.iload 6, 2) := by decide +kernel
theorem dX9_findDigits_166 : decode cX9_findDigits 166 = .ok (.bipush 16, 2) := by decide +kernel
theorem dX9_findDigits_168 : decode cX9_findDigits 168 = .ok (.idiv, 1) := by decide +kernel
theorem dX9_findDigits_169 : decode cX9_findDigits 169 = .ok (.bipush 16, 2) := by decide +kernel
theorem dX9_findDigits_171 : decode cX9_findDigits 171 = .ok (.irem, 1) := by decide +kernel
theorem dX9_findDigits_172 : decode cX9_findDigits 172 = .ok (.iastore, 1) := by decide +kernel
theorem dX9_findDigits_173 : decode cX9_findDigits 173 = .ok (.aload_n 0, 1) := by decide +kernel
theorem dX9_findDigits_174 : decode cX9_findDigits 174 = .ok (.getfield 35, 3) := by decide +kernel
theorem dX9_findDigits_177 : decode cX9_findDigits 177 = .ok (.bipush 34, 2) := by decide +kernel
theorem dX9_findDigits_179 : decode cX9_findDigits 179 = .ok (.iload 6, 2) := by decide +kernel
theorem dX9_findDigits_181 : decode cX9_findDigits 181 = .ok (.bipush 16, 2) := by decide +kernel
theorem dX9_findDigits_183 : decode cX9_findDigits 183 = .ok (.irem, 1) := by decide +kernel
theorem dX9_findDigits_184 : decode cX9_findDigits 184 = .ok (.iastore, 1) := by decide +kernel
theorem dX9_findDigits_185 : decode cX9_findDigits 185 = .ok (.return_, 1) := by decide +kernel
set_option maxRecDepth 20000 in
theorem ggX9_digit_X9_hasRoot : GoodIn wsX9_digit wsX9_hasRoot := goodIn_r _ [9, 10, 11, 12, 13, 8, 14, 2, 41, 42, 43, 44, 45, 46, 47, 48, 49, 50, 51, 52, 53, 54, 55, 56, 57, 58, 59, 60, 61] (by decide +kernel) (by decide +kernel)
set_option maxRecDepth 20000 in
theorem gX9_digit_X9_hasRoot : GoodIn wsX9_digit (wsV RX9 120 RX9 yX9_hasRoot wsX9_hasRoot) := goodIn_app (goodIn_of _ (by decide +kernel)) ggX9_digit_X9_hasRoot
set_option maxRecDepth 20000 in
theorem ggX9_digit_X9_leaves : GoodIn wsX9_digit wsX9_leaves := goodIn_r _ [14, 2, 41, 42, 43, 44, 45, 46, 47, 48, 49, 50, 51, 52, 53, 54, 55, 56, 57, 58, 59, 60, 61] (by decide +kernel) (by decide +kernel)
set_option maxRecDepth 20000 in
theorem gX9_digit_X9_leaves : GoodIn wsX9_digit (wsV RX9 81 RX9 yX9_leaves wsX9_leaves) := goodIn_app (goodIn_of _ (by decide +kernel)) ggX9_digit_X9_leaves
set_option maxRecDepth 20000 in
theorem ggX9_digit_X9_at : GoodIn wsX9_digit wsX9_at := goodIn_r _ [17] (by decide +kernel) (by decide +kernel)
set_option maxRecDepth 20000 in
theorem gX9_digit_X9_at : GoodIn wsX9_digit (va_wsS RX9 107 yX9_at wsX9_at) := goodIn_app (goodIn_of _ (by decide +kernel)) ggX9_digit_X9_at
set_option maxRecDepth 20000 in
theorem ggX9_digit_X9_findDigits : GoodIn wsX9_digit wsX9_findDigits := goodIn_r _ [21, 22, 23, 24, 25, 26, 27, 4, 28, 29, 30, 8, 31, 32, 33, 34, 35, 36, 37, 38, 39, 40, 41, 42, 43, 44, 45, 46, 47, 48, 49, 50, 51, 52, 53, 54, 55, 56, 57, 58, 59, 60, 61] (by decide +kernel) (by decide +kernel)
set_option maxRecDepth 20000 in
theorem gX9_digit_X9_findDigits : GoodIn wsX9_digit (wsV RX9 124 RX9 yX9_findDigits wsX9_findDigits) := goodIn_app (goodIn_of _ (by decide +kernel)) ggX9_digit_X9_findDigits
theorem dX9_digit_0 : decode cX9_digit 0 = .ok (.aload_n 0, 1) := by decide +kernel
theorem dX9_digit_1 : decode cX9_digit 1 = .ok (.invokevirtual 120, 3) := by decide +kernel
theorem dX9_digit_4 : decode cX9_digit 4 = .ok (.ifCond .eq 25, 3) := by decide +kernel
theorem dX9_digit_7 : decode cX9_digit 7 = .ok (.iload_n 1, 1) := by decide +kernel
theorem dX9_digit_8 : decode cX9_digit 8 = .ok (.ifCond .lt 21, 3) := by decide +kernel
theorem dX9_digit_11 : decode cX9_digit 11 = .ok (.iload_n 1, 1) := by decide +kernel
theorem dX9_digit_12 : decode cX9_digit 12 = .ok (.aload_n 0, 1) := by decide +kernel
theorem dX9_digit_13 : decode cX9_digit 13 = .ok (.invokevirtual 81, 3) := by decide +kernel
theorem dX9_digit_16 : decode cX9_digit 16 = .ok (.if_icmp .ge 13, 3) := by decide +kernel
theorem dX9_digit_19 : decode cX9_digit 19 = .ok (.iload_n 2, 1) := by decide +kernel
theorem dX9_digit_20 : decode cX9_digit 20 = .ok (.ifCond .lt 9, 3) := by decide +kernel
theorem dX9_digit_23 : decode cX9_digit 23 = .ok (.iload_n 2, 1) := by decide +kernel
theorem dX9_digit_24 : decode cX9_digit 24 = .ok (.bipush 35, 2) := by decide +kernel
theorem dX9_digit_26 : decode cX9_digit 26 = .ok (.if_icmp .lt 5, 3) := by decide +kernel
theorem dX9_digit_29 : decode cX9_digit 29 = .ok (.iconst (-1), 1) := by decide +kernel
theorem dX9_digit_30 : decode cX9_digit 30 = .ok (.ireturn, 1) := by decide +kernel
theorem dX9_digit_31 : decode cX9_digit 31 = .ok (.aload_n 0, 1) := by decide +kernel
theorem dX9_digit_32 : decode cX9_digit 32 = .ok (.iload_n 1, 1) := by decide +kernel
theorem dX9_digit_33 : decode cX9_digit 33 = .ok (.aload_n 0, 1) := by decide +kernel
theorem dX9_digit_34 : decode cX9_digit 34 = .ok (.getfield 13, 3) := by decide +kernel
theorem dX9_digit_37 : decode cX9_digit 37 = .ok (.aload_n 0, 1) := by decide +kernel
theorem dX9_digit_38 : decode cX9_digit 38 = .ok (.getfield 7, 3) := by decide +kernel
theorem dX9_digit_41 : decode cX9_digit 41 = .ok (.iconst 0, 1) := by decide +kernel
theorem dX9_digit_42 : decode cX9_digit 42 = .ok (.invokestatic 107, 3) := by decide +kernel
theorem dX9_digit_45 : decode cX9_digit 45 = .ok (.laload, 1) := by decide +kernel
theorem dX9_digit_46 : decode cX9_digit 46 = .ok (.aload_n 0, 1) := by decide +kernel
theorem dX9_digit_47 : decode cX9_digit 47 = .ok (.getfield 17, 3) := by decide +kernel
theorem dX9_digit_50 : decode cX9_digit 50 = .ok (.aload_n 0, 1) := by decide +kernel
theorem dX9_digit_51 : decode cX9_digit 51 = .ok (.getfield 7, 3) := by decide +kernel
theorem dX9_digit_54 : decode cX9_digit 54 = .ok (.iconst 0, 1) := by decide +kernel
theorem dX9_digit_55 : decode cX9_digit 55 = .ok (.invokestatic 107, 3) := by decide +kernel
theorem dX9_digit_58 : decode cX9_digit 58 = .ok (.laload, 1) := by decide +kernel
theorem dX9_digit_59 : decode cX9_digit 59 = .ok (.invokevirtual 124, 3) := by decide +kernel
theorem dX9_digit_62 : decode cX9_digit 62 = .ok (.aload_n 0, 1) := by decide +kernel
theorem dX9_digit_63 : decode cX9_digit 63 = .ok (.getfield 35, 3) := by decide +kernel
theorem dX9_digit_66 : decode cX9_digit 66 = .ok (.iload_n 2, 1) := by decide +kernel
theorem dX9_digit_67 : decode cX9_digit 67 = .ok (.iaload, 1) := by decide +kernel
theorem dX9_digit_68 : decode cX9_digit 68 = .ok (.ireturn, 1) := by decide +kernel
set_option maxRecDepth 20000 in
theorem ggX9_sign_X9_hasRoot : GoodIn wsX9_sign wsX9_hasRoot := goodIn_r _ [16, 17, 18, 19, 20, 15, 21, 3, 57, 58, 59, 60, 61, 62, 63, 64, 65, 66, 67, 68, 69, 70, 71, 72, 73, 74, 75, 76, 77] (by decide +kernel) (by decide +kernel)
set_option maxRecDepth 20000 in
theorem gX9_sign_X9_hasRoot : GoodIn wsX9_sign (wsV RX9 120 RX9 yX9_hasRoot wsX9_hasRoot) := goodIn_app (goodIn_of _ (by decide +kernel)) ggX9_sign_X9_hasRoot
set_option maxRecDepth 20000 in
theorem ggX9_sign_X9_leaves : GoodIn wsX9_sign wsX9_leaves := goodIn_r _ [21, 3, 57, 58, 59, 60, 61, 62, 63, 64, 65, 66, 67, 68, 69, 70, 71, 72, 73, 74, 75, 76, 77] (by decide +kernel) (by decide +kernel)
set_option maxRecDepth 20000 in
theorem gX9_sign_X9_leaves : GoodIn wsX9_sign (wsV RX9 81 RX9 yX9_leaves wsX9_leaves) := goodIn_app (goodIn_of _ (by decide +kernel)) ggX9_sign_X9_leaves
set_option maxRecDepth 20000 in
theorem ggX9_sign_X9_at : GoodIn wsX9_sign wsX9_at := goodIn_r _ [24] (by decide +kernel) (by decide +kernel)
set_option maxRecDepth 20000 in
theorem gX9_sign_X9_at : GoodIn wsX9_sign (va_wsS RX9 107 yX9_at wsX9_at) := goodIn_app (goodIn_of _ (by decide +kernel)) ggX9_sign_X9_at
set_option maxRecDepth 20000 in
theorem ggX9_sign_X9_findDigits : GoodIn wsX9_sign wsX9_findDigits := goodIn_r _ [28, 29, 30, 31, 32, 7, 9, 5, 33, 34, 35, 15, 36, 37, 38, 39, 40, 41, 42, 43, 44, 45, 57, 58, 59, 60, 61, 62, 63, 64, 65, 66, 67, 68, 69, 70, 71, 72, 73, 74, 75, 76, 77] (by decide +kernel) (by decide +kernel)
set_option maxRecDepth 20000 in
theorem gX9_sign_X9_findDigits : GoodIn wsX9_sign (wsV RX9 124 RX9 yX9_findDigits wsX9_findDigits) := goodIn_app (goodIn_of _ (by decide +kernel)) ggX9_sign_X9_findDigits
set_option maxRecDepth 20000 in
theorem ggX9_sign_X9_place : GoodIn wsX9_sign wsX9_place := goodIn_r _ [49, 50, 51, 33, 34, 35, 15, 36, 7, 9, 37, 38, 39, 40, 41, 42, 43, 44, 45, 52, 53, 54, 55, 56, 31, 57, 58, 59, 60, 61, 62, 63, 64, 65, 66, 67, 68, 69, 70, 71, 72, 73, 74, 75, 76, 77] (by decide +kernel) (by decide +kernel)
set_option maxRecDepth 20000 in
theorem gX9_sign_X9_place : GoodIn wsX9_sign (wsV RX9 95 RX9 yX9_place wsX9_place) := goodIn_app (goodIn_of _ (by decide +kernel)) ggX9_sign_X9_place
theorem dX9_sign_0 : decode cX9_sign 0 = .ok (.aload_n 0, 1) := by decide +kernel
theorem dX9_sign_1 : decode cX9_sign 1 = .ok (.invokevirtual 120, 3) := by decide +kernel
theorem dX9_sign_4 : decode cX9_sign 4 = .ok (.ifCond .ne 5, 3) := by decide +kernel
theorem dX9_sign_7 : decode cX9_sign 7 = .ok (.iconst (-1), 1) := by decide +kernel
theorem dX9_sign_8 : decode cX9_sign 8 = .ok (.ireturn, 1) := by decide +kernel
theorem dX9_sign_9 : decode cX9_sign 9 = .ok (.aload_n 0, 1) := by decide +kernel
theorem dX9_sign_10 : decode cX9_sign 10 = .ok (.getfield 88, 3) := by decide +kernel
theorem dX9_sign_13 : decode cX9_sign 13 = .ok (.aload_n 0, 1) := by decide +kernel
theorem dX9_sign_14 : decode cX9_sign 14 = .ok (.invokevirtual 81, 3) := by decide +kernel
theorem dX9_sign_17 : decode cX9_sign 17 = .ok (.if_icmp .ne 6, 3) := by decide +kernel
theorem dX9_sign_20 : decode cX9_sign 20 = .ok (.bipush (-2), 2) := by decide +kernel
theorem dX9_sign_22 : decode cX9_sign 22 = .ok (.ireturn, 1) := by decide +kernel
theorem dX9_sign_23 : decode cX9_sign 23 = .ok (.aload_n 0, 1) := by decide +kernel
theorem dX9_sign_24 : decode cX9_sign 24 = .ok (.getfield 88, 3) := by decide +kernel
theorem dX9_sign_27 : decode cX9_sign 27 = .ok (.istore_n 1, 1) := by decide +kernel
theorem dX9_sign_28 : decode cX9_sign 28 = .ok (.aload_n 0, 1) := by decide +kernel
theorem dX9_sign_29 : decode cX9_sign 29 = .ok (.dup, 1) := by decide +kernel
theorem dX9_sign_30 : decode cX9_sign 30 = .ok (.getfield 88, 3) := by decide +kernel
theorem dX9_sign_33 : decode cX9_sign 33 = .ok (.iconst 1, 1) := by decide +kernel
theorem dX9_sign_34 : decode cX9_sign 34 = .ok (.iadd, 1) := by decide +kernel
theorem dX9_sign_35 : decode cX9_sign 35 = .ok (.putfield 88, 3) := by decide +kernel
theorem dX9_sign_38 : decode cX9_sign 38 = .ok (.aload_n 0, 1) := by decide +kernel
theorem dX9_sign_39 : decode cX9_sign 39 = .ok (.iload_n 1, 1) := by decide +kernel
theorem dX9_sign_40 : decode cX9_sign 40 = .ok (.aload_n 0, 1) := by decide +kernel
theorem dX9_sign_41 : decode cX9_sign 41 = .ok (.getfield 13, 3) := by decide +kernel
theorem dX9_sign_44 : decode cX9_sign 44 = .ok (.aload_n 0, 1) := by decide +kernel
theorem dX9_sign_45 : decode cX9_sign 45 = .ok (.getfield 7, 3) := by decide +kernel
theorem dX9_sign_48 : decode cX9_sign 48 = .ok (.iconst 0, 1) := by decide +kernel
theorem dX9_sign_49 : decode cX9_sign 49 = .ok (.invokestatic 107, 3) := by decide +kernel
theorem dX9_sign_52 : decode cX9_sign 52 = .ok (.laload, 1) := by decide +kernel
theorem dX9_sign_53 : decode cX9_sign 53 = .ok (.aload_n 0, 1) := by decide +kernel
theorem dX9_sign_54 : decode cX9_sign 54 = .ok (.getfield 17, 3) := by decide +kernel
theorem dX9_sign_57 : decode cX9_sign 57 = .ok (.aload_n 0, 1) := by decide +kernel
theorem dX9_sign_58 : decode cX9_sign 58 = .ok (.getfield 7, 3) := by decide +kernel
theorem dX9_sign_61 : decode cX9_sign 61 = .ok (.iconst 0, 1) := by decide +kernel
theorem dX9_sign_62 : decode cX9_sign 62 = .ok (.invokestatic 107, 3) := by decide +kernel
theorem dX9_sign_65 : decode cX9_sign 65 = .ok (.laload, 1) := by decide +kernel
theorem dX9_sign_66 : decode cX9_sign 66 = .ok (.invokevirtual 124, 3) := by decide +kernel
theorem dX9_sign_69 : decode cX9_sign 69 = .ok (.iconst 0, 1) := by decide +kernel
theorem dX9_sign_70 : decode cX9_sign 70 = .ok (.istore_n 2, 1) := by decide +kernel
theorem dX9_sign_71 : decode cX9_sign 71 = .ok (.iload_n 2, 1) := by decide +kernel
theorem dX9_sign_72 : decode cX9_sign 72 = .ok (.bipush 35, 2) := by decide +kernel
theorem dX9_sign_74 : decode cX9_sign 74 = .ok (.if_icmp .ge 41, 3) := by decide +kernel
theorem dX9_sign_77 : decode cX9_sign 77 = .ok (.aload_n 0, 1) := by decide +kernel
theorem dX9_sign_78 : decode cX9_sign 78 = .ok (.iload_n 1, 1) := by decide +kernel
theorem dX9_sign_79 : decode cX9_sign 79 = .ok (.iload_n 2, 1) := by decide +kernel
theorem dX9_sign_80 : decode cX9_sign 80 = .ok (.aload_n 0, 1) := by decide +kernel
theorem dX9_sign_81 : decode cX9_sign 81 = .ok (.getfield 35, 3) := by decide +kernel
theorem dX9_sign_84 : decode cX9_sign 84 = .ok (.iload_n 2, 1) := by decide +kernel
theorem dX9_sign_85 : decode cX9_sign 85 = .ok (.iaload, 1) := by decide +kernel
theorem dX9_sign_86 : decode cX9_sign 86 = .ok (.invokevirtual 95, 3) := by decide +kernel
theorem dX9_sign_89 : decode cX9_sign 89 = .ok (.aload_n 0, 1) := by decide +kernel
theorem dX9_sign_90 : decode cX9_sign 90 = .ok (.getfield 23, 3) := by decide +kernel
theorem dX9_sign_93 : decode cX9_sign 93 = .ok (.iload_n 2, 1) := by decide +kernel
theorem dX9_sign_94 : decode cX9_sign 94 = .ok (.aload_n 0, 1) := by decide +kernel
theorem dX9_sign_95 : decode cX9_sign 95 = .ok (.getfield 43, 3) := by decide +kernel
theorem dX9_sign_98 : decode cX9_sign 98 = .ok (.lastore, 1) := by decide +kernel
theorem dX9_sign_99 : decode cX9_sign 99 = .ok (.aload_n 0, 1) := by decide +kernel
theorem dX9_sign_100 : decode cX9_sign 100 = .ok (.getfield 26, 3) := by decide +kernel
theorem dX9_sign_103 : decode cX9_sign 103 = .ok (.iload_n 2, 1) := by decide +kernel
theorem dX9_sign_104 : decode cX9_sign 104 = .ok (.aload_n 0, 1) := by decide +kernel
theorem dX9_sign_105 : decode cX9_sign 105 = .ok (.getfield 47, 3) := by decide +kernel
theorem dX9_sign_108 : decode cX9_sign 108 = .ok (.lastore, 1) := by decide +kernel
theorem dX9_sign_109 : decode cX9_sign 109 = .ok (.iinc 2 1, 3) := by decide +kernel
theorem dX9_sign_112 : decode cX9_sign 112 = .ok (.goto (-41), 3) := by decide +kernel
theorem dX9_sign_115 : decode cX9_sign 115 = .ok (.iconst 0, 1) := by decide +kernel
theorem dX9_sign_116 : decode cX9_sign 116 = .ok (.istore_n 2, 1) := by decide +kernel
theorem dX9_sign_117 : decode cX9_sign 117 = .ok (.iload_n 2, 1) := by decide +kernel
theorem dX9_sign_118 : decode cX9_sign 118 = .ok (.aload_n 0, 1) := by decide +kernel
theorem dX9_sign_119 : decode cX9_sign 119 = .ok (.getfield 7, 3) := by decide +kernel
theorem dX9_sign_122 : decode cX9_sign 122 = .ok (.if_icmp .ge 66, 3) := by decide +kernel
theorem dX9_sign_125 : decode cX9_sign 125 = .ok (.iload_n 1, 1) := by decide +kernel
theorem dX9_sign_126 : decode cX9_sign 126 = .ok (.iload_n 2, 1) := by decide +kernel
theorem dX9_sign_127 : decode cX9_sign 127 = .ok (.ishr, 1) := by decide +kernel
theorem dX9_sign_128 : decode cX9_sign 128 = .ok (.istore_n 3, 1) := by decide +kernel
theorem dX9_sign_129 : decode cX9_sign 129 = .ok (.iload_n 2, 1) := by decide +kernel
theorem dX9_sign_130 : decode cX9_sign 130 = .ok (.iload_n 3, 1) := by decide +kernel
theorem dX9_sign_131 : decode cX9_sign 131 = .ok (.iconst 2, 1) := by decide +kernel
theorem dX9_sign_132 : decode cX9_sign 132 = .ok (.irem, 1) := by decide +kernel
theorem dX9_sign_133 : decode cX9_sign 133 = .ok (.ifCond .ne 9, 3) := by decide +kernel
theorem dX9_sign_136 : decode cX9_sign 136 = .ok (.iload_n 3, 1) := by decide +kernel
theorem dX9_sign_137 : decode cX9_sign 137 = .ok (.iconst 1, 1) := by decide +kernel
theorem dX9_sign_138 : decode cX9_sign 138 = .ok (.iadd, 1) := by decide +kernel
theorem dX9_sign_139 : decode cX9_sign 139 = .ok (.goto 6, 3) := by decide +kernel
theorem dX9_sign_142 : decode cX9_sign 142 = .ok (.iload_n 3, 1) := by decide +kernel
theorem dX9_sign_143 : decode cX9_sign 143 = .ok (.iconst 1, 1) := by decide +kernel
theorem dX9_sign_144 : decode cX9_sign 144 = .ok (.isub, 1) := by decide +kernel
theorem dX9_sign_145 : decode cX9_sign 145 = .ok (.invokestatic 107, 3) := by decide +kernel
theorem dX9_sign_148 : decode cX9_sign 148 = .ok (.istore 4, 2) := by decide +kernel
theorem dX9_sign_150 : decode cX9_sign 150 = .ok (.aload_n 0, 1) := by decide +kernel
theorem dX9_sign_151 : decode cX9_sign 151 = .ok (.getfield 23, 3) := by decide +kernel
theorem dX9_sign_154 : decode cX9_sign 154 = .ok (.bipush 35, 2) := by decide +kernel
theorem dX9_sign_156 : decode cX9_sign 156 = .ok (.iload_n 2, 1) := by decide +kernel
theorem dX9_sign_157 : decode cX9_sign 157 = .ok (.iadd, 1) := by decide +kernel
theorem dX9_sign_158 : decode cX9_sign 158 = .ok (.aload_n 0, 1) := by decide +kernel
theorem dX9_sign_159 : decode cX9_sign 159 = .ok (.getfield 13, 3) := by decide +kernel
theorem dX9_sign_162 : decode cX9_sign 162 = .ok (.iload 4, 2) := by decide +kernel
theorem dX9_sign_164 : decode cX9_sign 164 = .ok (.laload, 1) := by decide +kernel
theorem dX9_sign_165 : decode cX9_sign 165 = .ok (.lastore, 1) := by decide +kernel
theorem dX9_sign_166 : decode cX9_sign 166 = .ok (.aload_n 0, 1) := by decide +kernel
theorem dX9_sign_167 : decode cX9_sign 167 = .ok (.getfield 26, 3) := by decide +kernel
theorem dX9_sign_170 : decode cX9_sign 170 = .ok (.bipush 35, 2) := by decide +kernel
theorem dX9_sign_172 : decode cX9_sign 172 = .ok (.iload_n 2, 1) := by decide +kernel
theorem dX9_sign_173 : decode cX9_sign 173 = .ok (.iadd, 1) := by decide +kernel
theorem dX9_sign_174 : decode cX9_sign 174 = .ok (.aload_n 0, 1) := by decide +kernel
theorem dX9_sign_175 : decode cX9_sign 175 = .ok (.getfield 17, 3) := by decide +kernel
theorem dX9_sign_178 : decode cX9_sign 178 = .ok (.iload 4, 2) := by decide +kernel
theorem dX9_sign_180 : decode cX9_sign 180 = .ok (.laload, 1) := by decide +kernel
theorem dX9_sign_181 : decode cX9_sign 181 = .ok (.lastore, 1) := by decide +kernel
theorem dX9_sign_182 : decode cX9_sign 182 = .ok (.iinc 2 1, 3) := by decide +kernel
theorem dX9_sign_185 : decode cX9_sign 185 = .ok (.goto (-68), 3) := by decide +kernel
theorem dX9_sign_188 : decode cX9_sign 188 = .ok (.aload_n 0, 1) := by decide +kernel
theorem dX9_sign_189 : decode cX9_sign 189 = .ok (.iconst 1, 1) := by decide +kernel
theorem dX9_sign_190 : decode cX9_sign 190 = .ok (.putfield 91, 3) := by decide +kernel
theorem dX9_sign_193 : decode cX9_sign 193 = .ok (.aload_n 0, 1) := by decide +kernel
theorem dX9_sign_194 : decode cX9_sign 194 = .ok (.iload_n 1, 1) := by decide +kernel
theorem dX9_sign_195 : decode cX9_sign 195 = .ok (.putfield 128, 3) := by decide +kernel
theorem dX9_sign_198 : decode cX9_sign 198 = .ok (.iload_n 1, 1) := by decide +kernel
theorem dX9_sign_199 : decode cX9_sign 199 = .ok (.ireturn, 1) := by decide +kernel
theorem dX9_leaf_0 : decode cX9_leaf 0 = .ok (.aload_n 0, 1) := by decide +kernel
theorem dX9_leaf_1 : decode cX9_leaf 1 = .ok (.getfield 91, 3) := by decide +kernel
theorem dX9_leaf_4 : decode cX9_leaf 4 = .ok (.ifCond .eq 10, 3) := by decide +kernel
theorem dX9_leaf_7 : decode cX9_leaf 7 = .ok (.aload_n 0, 1) := by decide +kernel
theorem dX9_leaf_8 : decode cX9_leaf 8 = .ok (.getfield 128, 3) := by decide +kernel
theorem dX9_leaf_11 : decode cX9_leaf 11 = .ok (.goto 4, 3) := by decide +kernel
theorem dX9_leaf_14 : decode cX9_leaf 14 = .ok (.iconst (-1), 1) := by decide +kernel
theorem dX9_leaf_15 : decode cX9_leaf 15 = .ok (.ireturn, 1) := by decide +kernel
theorem dX9_isPart_0 : decode cX9_isPart 0 = .ok (.aload_n 0, 1) := by decide +kernel
theorem dX9_isPart_1 : decode cX9_isPart 1 = .ok (.getfield 91, 3) := by decide +kernel
theorem dX9_isPart_4 : decode cX9_isPart 4 = .ok (.ifCond .eq 31, 3) := by decide +kernel
theorem dX9_isPart_7 : decode cX9_isPart 7 = .ok (.iload_n 1, 1) := by decide +kernel
theorem dX9_isPart_8 : decode cX9_isPart 8 = .ok (.ifCond .lt 27, 3) := by decide +kernel
theorem dX9_isPart_11 : decode cX9_isPart 11 = .ok (.iload_n 1, 1) := by decide +kernel
theorem dX9_isPart_12 : decode cX9_isPart 12 = .ok (.bipush 35, 2) := by decide +kernel
theorem dX9_isPart_14 : decode cX9_isPart 14 = .ok (.aload_n 0, 1) := by decide +kernel
theorem dX9_isPart_15 : decode cX9_isPart 15 = .ok (.getfield 7, 3) := by decide +kernel
theorem dX9_isPart_18 : decode cX9_isPart 18 = .ok (.iadd, 1) := by decide +kernel
theorem dX9_isPart_19 : decode cX9_isPart 19 = .ok (.if_icmp .ge 16, 3) := by decide +kernel
theorem dX9_isPart_22 : decode cX9_isPart 22 = .ok (.iload_n 2, 1) := by decide +kernel
theorem dX9_isPart_23 : decode cX9_isPart 23 = .ok (.ifCond .eq 8, 3) := by decide +kernel
theorem dX9_isPart_26 : decode cX9_isPart 26 = .ok (.iload_n 2, 1) := by decide +kernel
theorem dX9_isPart_27 : decode cX9_isPart 27 = .ok (.iconst 1, 1) := by decide +kernel
theorem dX9_isPart_28 : decode cX9_isPart 28 = .ok (.if_icmp .ne 7, 3) := by decide +kernel
theorem dX9_isPart_31 : decode cX9_isPart 31 = .ok (.iconst 1, 1) := by decide +kernel
theorem dX9_isPart_32 : decode cX9_isPart 32 = .ok (.goto 4, 3) := by decide +kernel
theorem dX9_isPart_35 : decode cX9_isPart 35 = .ok (.iconst 0, 1) := by decide +kernel
theorem dX9_isPart_36 : decode cX9_isPart 36 = .ok (.ireturn, 1) := by decide +kernel
set_option maxRecDepth 20000 in
theorem ggX9_part_X9_isPart : GoodIn wsX9_part wsX9_isPart := goodIn_r _ [7, 8, 9, 10, 11, 12, 13, 14, 15, 16, 17, 18, 19, 20, 21, 22, 23, 24, 25, 26, 27, 28, 29, 30] (by decide +kernel) (by decide +kernel)
set_option maxRecDepth 20000 in
theorem gX9_part_X9_isPart : GoodIn wsX9_part (wsV RX9 131 RX9 yX9_isPart wsX9_isPart) := goodIn_app (goodIn_of _ (by decide +kernel)) ggX9_part_X9_isPart
theorem dX9_part_0 : decode cX9_part 0 = .ok (.aload_n 0, 1) := by decide +kernel
theorem dX9_part_1 : decode cX9_part 1 = .ok (.iload_n 1, 1) := by decide +kernel
theorem dX9_part_2 : decode cX9_part 2 = .ok (.iload_n 2, 1) := by decide +kernel
theorem dX9_part_3 : decode cX9_part 3 = .ok (.invokevirtual 131, 3) := by decide +kernel
theorem dX9_part_6 : decode cX9_part 6 = .ok (.ifCond .ne 5, 3) := by decide +kernel
theorem dX9_part_9 : decode cX9_part 9 = .ok (.lconst 0, 1) := by decide +kernel
theorem dX9_part_10 : decode cX9_part 10 = .ok (.lreturn, 1) := by decide +kernel
theorem dX9_part_11 : decode cX9_part 11 = .ok (.iload_n 2, 1) := by decide +kernel
theorem dX9_part_12 : decode cX9_part 12 = .ok (.ifCond .ne 12, 3) := by decide +kernel
theorem dX9_part_15 : decode cX9_part 15 = .ok (.aload_n 0, 1) := by decide +kernel
theorem dX9_part_16 : decode cX9_part 16 = .ok (.getfield 23, 3) := by decide +kernel
theorem dX9_part_19 : decode cX9_part 19 = .ok (.iload_n 1, 1) := by decide +kernel
theorem dX9_part_20 : decode cX9_part 20 = .ok (.laload, 1) := by decide +kernel
theorem dX9_part_21 : decode cX9_part 21 = .ok (.goto 9, 3) := by decide +kernel
theorem dX9_part_24 : decode cX9_part 24 = .ok (.aload_n 0, 1) := by decide +kernel
theorem dX9_part_25 : decode cX9_part 25 = .ok (.getfield 26, 3) := by decide +kernel
theorem dX9_part_28 : decode cX9_part 28 = .ok (.iload_n 1, 1) := by decide +kernel
theorem dX9_part_29 : decode cX9_part 29 = .ok (.laload, 1) := by decide +kernel
theorem dX9_part_30 : decode cX9_part 30 = .ok (.lreturn, 1) := by decide +kernel
theorem dX9_setLeaf_0 : decode cX9_setLeaf 0 = .ok (.aload_n 0, 1) := by decide +kernel
theorem dX9_setLeaf_1 : decode cX9_setLeaf 1 = .ok (.getfield 91, 3) := by decide +kernel
theorem dX9_setLeaf_4 : decode cX9_setLeaf 4 = .ok (.ifCond .eq 7, 3) := by decide +kernel
theorem dX9_setLeaf_7 : decode cX9_setLeaf 7 = .ok (.iload_n 1, 1) := by decide +kernel
theorem dX9_setLeaf_8 : decode cX9_setLeaf 8 = .ok (.ifCond .ge 5, 3) := by decide +kernel
theorem dX9_setLeaf_11 : decode cX9_setLeaf 11 = .ok (.iconst 0, 1) := by decide +kernel
theorem dX9_setLeaf_12 : decode cX9_setLeaf 12 = .ok (.ireturn, 1) := by decide +kernel
theorem dX9_setLeaf_13 : decode cX9_setLeaf 13 = .ok (.aload_n 0, 1) := by decide +kernel
theorem dX9_setLeaf_14 : decode cX9_setLeaf 14 = .ok (.iload_n 1, 1) := by decide +kernel
theorem dX9_setLeaf_15 : decode cX9_setLeaf 15 = .ok (.putfield 128, 3) := by decide +kernel
theorem dX9_setLeaf_18 : decode cX9_setLeaf 18 = .ok (.iconst 1, 1) := by decide +kernel
theorem dX9_setLeaf_19 : decode cX9_setLeaf 19 = .ok (.ireturn, 1) := by decide +kernel
set_option maxRecDepth 20000 in
theorem ggX9_setPart_X9_isPart : GoodIn wsX9_setPart wsX9_isPart := goodIn_r _ [7, 8, 9, 10, 11, 12, 13, 14, 15, 16, 17, 18, 19, 20, 21, 22, 23, 24, 25, 26, 27, 28, 29, 30] (by decide +kernel) (by decide +kernel)
set_option maxRecDepth 20000 in
theorem gX9_setPart_X9_isPart : GoodIn wsX9_setPart (wsV RX9 131 RX9 yX9_isPart wsX9_isPart) := goodIn_app (goodIn_of _ (by decide +kernel)) ggX9_setPart_X9_isPart
theorem dX9_setPart_0 : decode cX9_setPart 0 = .ok (.aload_n 0, 1) := by decide +kernel
theorem dX9_setPart_1 : decode cX9_setPart 1 = .ok (.iload_n 1, 1) := by decide +kernel
theorem dX9_setPart_2 : decode cX9_setPart 2 = .ok (.iload_n 2, 1) := by decide +kernel
theorem dX9_setPart_3 : decode cX9_setPart 3 = .ok (.invokevirtual 131, 3) := by decide +kernel
theorem dX9_setPart_6 : decode cX9_setPart 6 = .ok (.ifCond .ne 5, 3) := by decide +kernel
theorem dX9_setPart_9 : decode cX9_setPart 9 = .ok (.iconst 0, 1) := by decide +kernel
theorem dX9_setPart_10 : decode cX9_setPart 10 = .ok (.ireturn, 1) := by decide +kernel
theorem dX9_setPart_11 : decode cX9_setPart 11 = .ok (.iload_n 2, 1) := by decide +kernel
theorem dX9_setPart_12 : decode cX9_setPart 12 = .ok (.ifCond .ne 13, 3) := by decide +kernel
theorem dX9_setPart_15 : decode cX9_setPart 15 = .ok (.aload_n 0, 1) := by decide +kernel
theorem dX9_setPart_16 : decode cX9_setPart 16 = .ok (.getfield 23, 3) := by decide +kernel
theorem dX9_setPart_19 : decode cX9_setPart 19 = .ok (.iload_n 1, 1) := by decide +kernel
theorem dX9_setPart_20 : decode cX9_setPart 20 = .ok (.lload_n 3, 1) := by decide +kernel
theorem dX9_setPart_21 : decode cX9_setPart 21 = .ok (.lastore, 1) := by decide +kernel
theorem dX9_setPart_22 : decode cX9_setPart 22 = .ok (.goto 10, 3) := by decide +kernel
theorem dX9_setPart_25 : decode cX9_setPart 25 = .ok (.aload_n 0, 1) := by decide +kernel
theorem dX9_setPart_26 : decode cX9_setPart 26 = .ok (.getfield 26, 3) := by decide +kernel
theorem dX9_setPart_29 : decode cX9_setPart 29 = .ok (.iload_n 1, 1) := by decide +kernel
theorem dX9_setPart_30 : decode cX9_setPart 30 = .ok (.lload_n 3, 1) := by decide +kernel
theorem dX9_setPart_31 : decode cX9_setPart 31 = .ok (.lastore, 1) := by decide +kernel
theorem dX9_setPart_32 : decode cX9_setPart 32 = .ok (.iconst 1, 1) := by decide +kernel
theorem dX9_setPart_33 : decode cX9_setPart 33 = .ok (.ireturn, 1) := by decide +kernel
theorem dX9_tell_0 : decode cX9_tell 0 = .ok (.iload_n 1, 1) := by decide +kernel
theorem dX9_tell_1 : decode cX9_tell 1 = .ok (.ifCond .ne 11, 3) := by decide +kernel
theorem dX9_tell_4 : decode cX9_tell 4 = .ok (.aload_n 0, 1) := by decide +kernel
theorem dX9_tell_5 : decode cX9_tell 5 = .ok (.lload_n 2, 1) := by decide +kernel
theorem dX9_tell_6 : decode cX9_tell 6 = .ok (.putfield 134, 3) := by decide +kernel
theorem dX9_tell_9 : decode cX9_tell 9 = .ok (.goto 13, 3) := by decide +kernel
theorem dX9_tell_12 : decode cX9_tell 12 = .ok (.iload_n 1, 1) := by decide +kernel
theorem dX9_tell_13 : decode cX9_tell 13 = .ok (.iconst 1, 1) := by decide +kernel
theorem dX9_tell_14 : decode cX9_tell 14 = .ok (.if_icmp .ne 8, 3) := by decide +kernel
theorem dX9_tell_17 : decode cX9_tell 17 = .ok (.aload_n 0, 1) := by decide +kernel
theorem dX9_tell_18 : decode cX9_tell 18 = .ok (.lload_n 2, 1) := by decide +kernel
theorem dX9_tell_19 : decode cX9_tell 19 = .ok (.putfield 137, 3) := by decide +kernel
theorem dX9_tell_22 : decode cX9_tell 22 = .ok (.iload_n 1, 1) := by decide +kernel
theorem dX9_tell_23 : decode cX9_tell 23 = .ok (.ifCond .eq 8, 3) := by decide +kernel
theorem dX9_tell_26 : decode cX9_tell 26 = .ok (.iload_n 1, 1) := by decide +kernel
theorem dX9_tell_27 : decode cX9_tell 27 = .ok (.iconst 1, 1) := by decide +kernel
theorem dX9_tell_28 : decode cX9_tell 28 = .ok (.if_icmp .ne 7, 3) := by decide +kernel
theorem dX9_tell_31 : decode cX9_tell 31 = .ok (.iconst 1, 1) := by decide +kernel
theorem dX9_tell_32 : decode cX9_tell 32 = .ok (.goto 4, 3) := by decide +kernel
theorem dX9_tell_35 : decode cX9_tell 35 = .ok (.iconst 0, 1) := by decide +kernel
theorem dX9_tell_36 : decode cX9_tell 36 = .ok (.ireturn, 1) := by decide +kernel
set_option maxRecDepth 20000 in
theorem ggX9_verify_X9_leaves : GoodIn wsX9_verify wsX9_leaves := goodIn_r _ [17, 12, 54, 55, 56, 57, 58, 59, 60, 61, 62, 63, 64, 65, 66, 67, 68, 69, 70, 71, 72, 73, 74] (by decide +kernel) (by decide +kernel)
set_option maxRecDepth 20000 in
theorem gX9_verify_X9_leaves : GoodIn wsX9_verify (wsV RX9 81 RX9 yX9_leaves wsX9_leaves) := goodIn_app (goodIn_of _ (by decide +kernel)) ggX9_verify_X9_leaves
set_option maxRecDepth 20000 in
theorem ggX9_verify_X9_findDigits : GoodIn wsX9_verify wsX9_findDigits := goodIn_r _ [21, 22, 23, 24, 25, 6, 8, 9, 26, 27, 28, 16, 29, 30, 31, 32, 33, 34, 35, 36, 37, 38, 54, 55, 56, 57, 58, 59, 60, 61, 62, 63, 64, 65, 66, 67, 68, 69, 70, 71, 72, 73, 74] (by decide +kernel) (by decide +kernel)
set_option maxRecDepth 20000 in
theorem gX9_verify_X9_findDigits : GoodIn wsX9_verify (wsV RX9 124 RX9 yX9_findDigits wsX9_findDigits) := goodIn_app (goodIn_of _ (by decide +kernel)) ggX9_verify_X9_findDigits
set_option maxRecDepth 20000 in
theorem ggX9_verify_X9_carry : GoodIn wsX9_verify wsX9_carry := goodIn_r _ [42, 6, 8, 43, 24, 26, 27, 28, 16, 29, 30, 31, 32, 33, 34, 35, 36, 37, 38, 54, 55, 56, 57, 58, 59, 60, 61, 62, 63, 64, 65, 66, 67, 68, 69, 70, 71, 72, 73, 74] (by decide +kernel) (by decide +kernel)
set_option maxRecDepth 20000 in
theorem gX9_verify_X9_carry : GoodIn wsX9_verify (wsV RX9 73 RX9 yX9_carry wsX9_carry) := goodIn_app (goodIn_of _ (by decide +kernel)) ggX9_verify_X9_carry
set_option maxRecDepth 20000 in
theorem ggX9_verify_X9_gather : GoodIn wsX9_verify wsX9_gather := goodIn_r _ [47, 48, 24, 10, 11, 26, 27, 28, 16, 29, 6, 8, 30, 31, 32, 33, 34, 35, 36, 37, 38, 54, 55, 56, 57, 58, 59, 60, 61, 62, 63, 64, 65, 66, 67, 68, 69, 70, 71, 72, 73, 74] (by decide +kernel) (by decide +kernel)
set_option maxRecDepth 20000 in
theorem gX9_verify_X9_gather : GoodIn wsX9_verify (wsV RX9 99 RX9 yX9_gather wsX9_gather) := goodIn_app (goodIn_of _ (by decide +kernel)) ggX9_verify_X9_gather
set_option maxRecDepth 20000 in
theorem ggX9_verify_X9_join : GoodIn wsX9_verify wsX9_join := goodIn_r _ [52, 53, 24, 26, 27, 28, 16, 29, 6, 8, 30, 31, 32, 33, 34, 35, 36, 37, 38, 54, 55, 56, 57, 58, 59, 60, 61, 62, 63, 64, 65, 66, 67, 68, 69, 70, 71, 72, 73, 74] (by decide +kernel) (by decide +kernel)
set_option maxRecDepth 20000 in
theorem gX9_verify_X9_join : GoodIn wsX9_verify (wsV RX9 111 RX9 yX9_join wsX9_join) := goodIn_app (goodIn_of _ (by decide +kernel)) ggX9_verify_X9_join
theorem dX9_verify_0 : decode cX9_verify 0 = .ok (.aload_n 0, 1) := by decide +kernel
theorem dX9_verify_1 : decode cX9_verify 1 = .ok (.getfield 91, 3) := by decide +kernel
theorem dX9_verify_4 : decode cX9_verify 4 = .ok (.ifCond .ne 5, 3) := by decide +kernel
theorem dX9_verify_7 : decode cX9_verify 7 = .ok (.iconst (-1), 1) := by decide +kernel
theorem dX9_verify_8 : decode cX9_verify 8 = .ok (.ireturn, 1) := by decide +kernel
theorem dX9_verify_9 : decode cX9_verify 9 = .ok (.aload_n 0, 1) := by decide +kernel
theorem dX9_verify_10 : decode cX9_verify 10 = .ok (.getfield 128, 3) := by decide +kernel
theorem dX9_verify_13 : decode cX9_verify 13 = .ok (.aload_n 0, 1) := by decide +kernel
theorem dX9_verify_14 : decode cX9_verify 14 = .ok (.invokevirtual 81, 3) := by decide +kernel
theorem dX9_verify_17 : decode cX9_verify 17 = .ok (.if_icmp .lt 5, 3) := by decide +kernel
theorem dX9_verify_20 : decode cX9_verify 20 = .ok (.iconst 1, 1) := by decide +kernel
theorem dX9_verify_21 : decode cX9_verify 21 = .ok (.ireturn, 1) := by decide +kernel
theorem dX9_verify_22 : decode cX9_verify 22 = .ok (.aload_n 0, 1) := by decide +kernel
theorem dX9_verify_23 : decode cX9_verify 23 = .ok (.aload_n 0, 1) := by decide +kernel
theorem dX9_verify_24 : decode cX9_verify 24 = .ok (.getfield 128, 3) := by decide +kernel
theorem dX9_verify_27 : decode cX9_verify 27 = .ok (.aload_n 0, 1) := by decide +kernel
theorem dX9_verify_28 : decode cX9_verify 28 = .ok (.getfield 134, 3) := by decide +kernel
theorem dX9_verify_31 : decode cX9_verify 31 = .ok (.aload_n 0, 1) := by decide +kernel
theorem dX9_verify_32 : decode cX9_verify 32 = .ok (.getfield 137, 3) := by decide +kernel
theorem dX9_verify_35 : decode cX9_verify 35 = .ok (.invokevirtual 124, 3) := by decide +kernel
theorem dX9_verify_38 : decode cX9_verify 38 = .ok (.iconst 0, 1) := by decide +kernel
theorem dX9_verify_39 : decode cX9_verify 39 = .ok (.istore_n 1, 1) := by decide +kernel
theorem dX9_verify_40 : decode cX9_verify 40 = .ok (.iload_n 1, 1) := by decide +kernel
theorem dX9_verify_41 : decode cX9_verify 41 = .ok (.bipush 35, 2) := by decide +kernel
theorem dX9_verify_43 : decode cX9_verify 43 = .ok (.if_icmp .ge 66, 3) := by decide +kernel
theorem dX9_verify_46 : decode cX9_verify 46 = .ok (.aload_n 0, 1) := by decide +kernel
theorem dX9_verify_47 : decode cX9_verify 47 = .ok (.aload_n 0, 1) := by decide +kernel
theorem dX9_verify_48 : decode cX9_verify 48 = .ok (.getfield 23, 3) := by decide +kernel
theorem dX9_verify_51 : decode cX9_verify 51 = .ok (.iload_n 1, 1) := by decide +kernel
theorem dX9_verify_52 : decode cX9_verify 52 = .ok (.laload, 1) := by decide +kernel
theorem dX9_verify_53 : decode cX9_verify 53 = .ok (.putfield 43, 3) := by decide +kernel
theorem dX9_verify_56 : decode cX9_verify 56 = .ok (.aload_n 0, 1) := by decide +kernel
theorem dX9_verify_57 : decode cX9_verify 57 = .ok (.aload_n 0, 1) := by decide +kernel
theorem dX9_verify_58 : decode cX9_verify 58 = .ok (.getfield 26, 3) := by decide +kernel
theorem dX9_verify_61 : decode cX9_verify 61 = .ok (.iload_n 1, 1) := by decide +kernel
theorem dX9_verify_62 : decode cX9_verify 62 = .ok (.laload, 1) := by decide +kernel
theorem dX9_verify_63 : decode cX9_verify 63 = .ok (.putfield 47, 3) := by decide +kernel
theorem dX9_verify_66 : decode cX9_verify 66 = .ok (.aload_n 0, 1) := by decide +kernel
theorem dX9_verify_67 : decode cX9_verify 67 = .ok (.aload_n 0, 1) := by decide +kernel
theorem dX9_verify_68 : decode cX9_verify 68 = .ok (.getfield 128, 3) := by decide +kernel
theorem dX9_verify_71 : decode cX9_verify 71 = .ok (.iload_n 1, 1) := by decide +kernel
theorem dX9_verify_72 : decode cX9_verify 72 = .ok (.aload_n 0, 1) := by decide +kernel
theorem dX9_verify_73 : decode cX9_verify 73 = .ok (.getfield 35, 3) := by decide +kernel
theorem dX9_verify_76 : decode cX9_verify 76 = .ok (.iload_n 1, 1) := by decide +kernel
theorem dX9_verify_77 : decode cX9_verify 77 = .ok (.iaload, 1) := by decide +kernel
theorem dX9_verify_78 : decode cX9_verify 78 = .ok (.bipush 15, 2) := by decide +kernel
theorem dX9_verify_80 : decode cX9_verify 80 = .ok (.invokevirtual 73, 3) := by decide +kernel
theorem dX9_verify_83 : decode cX9_verify 83 = .ok (.aload_n 0, 1) := by decide +kernel
theorem dX9_verify_84 : decode cX9_verify 84 = .ok (.getfield 29, 3) := by decide +kernel
theorem dX9_verify_87 : decode cX9_verify 87 = .ok (.iload_n 1, 1) := by decide +kernel
theorem dX9_verify_88 : decode cX9_verify 88 = .ok (.aload_n 0, 1) := by decide +kernel
theorem dX9_verify_89 : decode cX9_verify 89 = .ok (.getfield 43, 3) := by decide +kernel
theorem dX9_verify_92 : decode cX9_verify 92 = .ok (.lastore, 1) := by decide +kernel
theorem dX9_verify_93 : decode cX9_verify 93 = .ok (.aload_n 0, 1) := by decide +kernel
theorem dX9_verify_94 : decode cX9_verify 94 = .ok (.getfield 32, 3) := by decide +kernel
theorem dX9_verify_97 : decode cX9_verify 97 = .ok (.iload_n 1, 1) := by decide +kernel
theorem dX9_verify_98 : decode cX9_verify 98 = .ok (.aload_n 0, 1) := by decide +kernel
theorem dX9_verify_99 : decode cX9_verify 99 = .ok (.getfield 47, 3) := by decide +kernel
theorem dX9_verify_102 : decode cX9_verify 102 = .ok (.lastore, 1) := by decide +kernel
theorem dX9_verify_103 : decode cX9_verify 103 = .ok (.iinc 1 1, 3) := by decide +kernel
theorem dX9_verify_106 : decode cX9_verify 106 = .ok (.goto (-66), 3) := by decide +kernel
theorem dX9_verify_109 : decode cX9_verify 109 = .ok (.aload_n 0, 1) := by decide +kernel
theorem dX9_verify_110 : decode cX9_verify 110 = .ok (.aload_n 0, 1) := by decide +kernel
theorem dX9_verify_111 : decode cX9_verify 111 = .ok (.getfield 128, 3) := by decide +kernel
theorem dX9_verify_114 : decode cX9_verify 114 = .ok (.invokevirtual 99, 3) := by decide +kernel
theorem dX9_verify_117 : decode cX9_verify 117 = .ok (.iconst 1, 1) := by decide +kernel
theorem dX9_verify_118 : decode cX9_verify 118 = .ok (.istore_n 1, 1) := by decide +kernel
theorem dX9_verify_119 : decode cX9_verify 119 = .ok (.iload_n 1, 1) := by decide +kernel
theorem dX9_verify_120 : decode cX9_verify 120 = .ok (.aload_n 0, 1) := by decide +kernel
theorem dX9_verify_121 : decode cX9_verify 121 = .ok (.getfield 7, 3) := by decide +kernel
theorem dX9_verify_124 : decode cX9_verify 124 = .ok (.if_icmp .gt 123, 3) := by decide +kernel
theorem dX9_verify_127 : decode cX9_verify 127 = .ok (.aload_n 0, 1) := by decide +kernel
theorem dX9_verify_128 : decode cX9_verify 128 = .ok (.getfield 43, 3) := by decide +kernel
theorem dX9_verify_131 : decode cX9_verify 131 = .ok (.lstore_n 2, 1) := by decide +kernel
theorem dX9_verify_132 : decode cX9_verify 132 = .ok (.aload_n 0, 1) := by decide +kernel
theorem dX9_verify_133 : decode cX9_verify 133 = .ok (.getfield 47, 3) := by decide +kernel
theorem dX9_verify_136 : decode cX9_verify 136 = .ok (.lstore 4, 2) := by decide +kernel
theorem dX9_verify_138 : decode cX9_verify 138 = .ok (.aload_n 0, 1) := by decide +kernel
theorem dX9_verify_139 : decode cX9_verify 139 = .ok (.getfield 23, 3) := by decide +kernel
theorem dX9_verify_142 : decode cX9_verify 142 = .ok (.bipush 35, 2) := by decide +kernel
theorem dX9_verify_144 : decode cX9_verify 144 = .ok (.iload_n 1, 1) := by decide +kernel
theorem dX9_verify_145 : decode cX9_verify 145 = .ok (.iadd, 1) := by decide +kernel
theorem dX9_verify_146 : decode cX9_verify 146 = .ok (.iconst 1, 1) := by decide +kernel
theorem dX9_verify_147 : decode cX9_verify 147 = .ok (.isub, 1) := by decide +kernel
theorem dX9_verify_148 : decode cX9_verify 148 = .ok (.laload, 1) := by decide +kernel
theorem dX9_verify_149 : decode cX9_verify 149 = .ok (.lstore 6, 2) := by decide +kernel
theorem dX9_verify_151 : decode cX9_verify 151 = .ok (.aload_n 0, 1) := by decide +kernel
theorem dX9_verify_152 : decode cX9_verify 152 = .ok (.getfield 26, 3) := by decide +kernel
theorem dX9_verify_155 : decode cX9_verify 155 = .ok (.bipush 35, 2) := by decide +kernel
theorem dX9_verify_157 : decode cX9_verify 157 = .ok (.iload_n 1, 1) := by decide +kernel
theorem dX9_verify_158 : decode cX9_verify 158 = .ok (.iadd, 1) := by decide +kernel
theorem dX9_verify_159 : decode cX9_verify 159 = .ok (.iconst 1, 1) := by decide +kernel
theorem dX9_verify_160 : decode cX9_verify 160 = .ok (.isub, 1) := by decide +kernel
theorem dX9_verify_161 : decode cX9_verify 161 = .ok (.laload, 1) := by decide +kernel
theorem dX9_verify_162 : decode cX9_verify 162 = .ok (.lstore 8, 2) := by decide +kernel
theorem dX9_verify_164 : decode cX9_verify 164 = .ok (.aload_n 0, 1) := by decide +kernel
theorem dX9_verify_165 : decode cX9_verify 165 = .ok (.getfield 128, 3) := by decide +kernel
theorem dX9_verify_168 : decode cX9_verify 168 = .ok (.iload_n 1, 1) := by decide +kernel
theorem dX9_verify_169 : decode cX9_verify 169 = .ok (.iconst 1, 1) := by decide +kernel
theorem dX9_verify_170 : decode cX9_verify 170 = .ok (.isub, 1) := by decide +kernel
theorem dX9_verify_171 : decode cX9_verify 171 = .ok (.ishr, 1) := by decide +kernel
theorem dX9_verify_172 : decode cX9_verify 172 = .ok (.iconst 2, 1) := by decide +kernel
theorem dX9_verify_173 : decode cX9_verify 173 = .ok (.irem, 1) := by decide +kernel
theorem dX9_verify_174 : decode cX9_verify 174 = .ok (.ifCond .ne 7, 3) := by decide +kernel
theorem dX9_verify_177 : decode cX9_verify 177 = .ok (.iconst 1, 1) := by decide +kernel
theorem dX9_verify_178 : decode cX9_verify 178 = .ok (.goto 4, 3) := by decide +kernel
theorem dX9_verify_181 : decode cX9_verify 181 = .ok (.iconst 0, 1) := by decide +kernel
theorem dX9_verify_182 : decode cX9_verify 182 = .ok (.istore 10, 2) := by decide +kernel
theorem dX9_verify_184 : decode cX9_verify 184 = .ok (.aload_n 0, 1) := by decide +kernel
theorem dX9_verify_185 : decode cX9_verify 185 = .ok (.iload_n 1, 1) := by decide +kernel
theorem dX9_verify_186 : decode cX9_verify 186 = .ok (.aload_n 0, 1) := by decide +kernel
theorem dX9_verify_187 : decode cX9_verify 187 = .ok (.getfield 128, 3) := by decide +kernel
theorem dX9_verify_190 : decode cX9_verify 190 = .ok (.iload_n 1, 1) := by decide +kernel
theorem dX9_verify_191 : decode cX9_verify 191 = .ok (.ishr, 1) := by decide +kernel
theorem dX9_verify_192 : decode cX9_verify 192 = .ok (.iload 10, 2) := by decide +kernel
theorem dX9_verify_194 : decode cX9_verify 194 = .ok (.ifCond .eq 7, 3) := by decide +kernel
theorem dX9_verify_197 : decode cX9_verify 197 = .ok (.lload_n 2, 1) := by decide +kernel
theorem dX9_verify_198 : decode cX9_verify 198 = .ok (.goto 5, 3) := by decide +kernel
theorem dX9_verify_201 : decode cX9_verify 201 = .ok (.lload 6, 2) := by decide +kernel
theorem dX9_verify_203 : decode cX9_verify 203 = .ok (.iload 10, 2) := by decide +kernel
theorem dX9_verify_205 : decode cX9_verify 205 = .ok (.ifCond .eq 8, 3) := by decide +kernel
theorem dX9_verify_208 : decode cX9_verify 208 = .ok (.lload 4, 2) := by decide +kernel
theorem dX9_verify_210 : decode cX9_verify 210 = .ok (.goto 5, 3) := by decide +kernel
theorem dX9_verify_213 : decode cX9_verify 213 = .ok (.lload 8, 2) := by decide +kernel
theorem dX9_verify_215 : decode cX9_verify 215 = .ok (.iload 10, 2) := by decide +kernel
theorem dX9_verify_217 : decode cX9_verify 217 = .ok (.ifCond .eq 8, 3) := by decide +kernel
theorem dX9_verify_220 : decode cX9_verify 220 = .ok (.lload 6, 2) := by decide +kernel
theorem dX9_verify_222 : decode cX9_verify 222 = .ok (.goto 4, 3) := by decide +kernel
theorem dX9_verify_225 : decode cX9_verify 225 = .ok (.lload_n 2, 1) := by decide +kernel
theorem dX9_verify_226 : decode cX9_verify 226 = .ok (.iload 10, 2) := by decide +kernel
theorem dX9_verify_228 : decode cX9_verify 228 = .ok (.ifCond .eq 8, 3) := by decide +kernel
theorem dX9_verify_231 : decode cX9_verify 231 = .ok (.lload 8, 2) := by decide +kernel
theorem dX9_verify_233 : decode cX9_verify 233 = .ok (.goto 5, 3) := by decide +kernel
theorem dX9_verify_236 : decode cX9_verify 236 = .ok (.lload 4, 2) := by decide +kernel
theorem dX9_verify_238 : decode cX9_verify 238 = .ok (.invokevirtual 111, 3) := by decide +kernel
theorem dX9_verify_241 : decode cX9_verify 241 = .ok (.iinc 1 1, 3) := by decide +kernel
theorem dX9_verify_244 : decode cX9_verify 244 = .ok (.goto (-125), 3) := by decide +kernel
theorem dX9_verify_247 : decode cX9_verify 247 = .ok (.aload_n 0, 1) := by decide +kernel
theorem dX9_verify_248 : decode cX9_verify 248 = .ok (.getfield 43, 3) := by decide +kernel
theorem dX9_verify_251 : decode cX9_verify 251 = .ok (.aload_n 0, 1) := by decide +kernel
theorem dX9_verify_252 : decode cX9_verify 252 = .ok (.getfield 134, 3) := by decide +kernel
theorem dX9_verify_255 : decode cX9_verify 255 = .ok (.lcmp, 1) := by decide +kernel
theorem dX9_verify_256 : decode cX9_verify 256 = .ok (.ifCond .ne 19, 3) := by decide +kernel
theorem dX9_verify_259 : decode cX9_verify 259 = .ok (.aload_n 0, 1) := by decide +kernel
theorem dX9_verify_260 : decode cX9_verify 260 = .ok (.getfield 47, 3) := by decide +kernel
theorem dX9_verify_263 : decode cX9_verify 263 = .ok (.aload_n 0, 1) := by decide +kernel
theorem dX9_verify_264 : decode cX9_verify 264 = .ok (.getfield 137, 3) := by decide +kernel
theorem dX9_verify_267 : decode cX9_verify 267 = .ok (.lcmp, 1) := by decide +kernel
theorem dX9_verify_268 : decode cX9_verify 268 = .ok (.ifCond .ne 7, 3) := by decide +kernel
theorem dX9_verify_271 : decode cX9_verify 271 = .ok (.iconst 0, 1) := by decide +kernel
theorem dX9_verify_272 : decode cX9_verify 272 = .ok (.goto 4, 3) := by decide +kernel
theorem dX9_verify_275 : decode cX9_verify 275 = .ok (.iconst 2, 1) := by decide +kernel
theorem dX9_verify_276 : decode cX9_verify 276 = .ok (.ireturn, 1) := by decide +kernel
set_option maxRecDepth 20000 in
theorem ggX9_hash_X9_take : GoodIn wsX9_hash wsX9_take := goodIn_r _ [9, 3, 4, 19, 20, 21, 22, 23, 24, 25, 26, 27, 28, 29, 30, 31, 32, 33, 34, 35, 36, 37, 38, 39] (by decide +kernel) (by decide +kernel)
set_option maxRecDepth 20000 in
theorem gX9_hash_X9_take : GoodIn wsX9_hash (wsV RX9 56 RX9 yX9_take wsX9_take) := goodIn_app (goodIn_of _ (by decide +kernel)) ggX9_hash_X9_take
set_option maxRecDepth 20000 in
theorem ggX9_hash_X9_put : GoodIn wsX9_hash wsX9_put := goodIn_r _ [13, 3, 4, 14, 15, 8, 16, 17, 18, 19, 20, 21, 22, 23, 24, 25, 26, 27, 28, 29, 30, 31, 32, 33, 34, 35, 36, 37, 38, 39] (by decide +kernel) (by decide +kernel)
set_option maxRecDepth 20000 in
theorem gX9_hash_X9_put : GoodIn wsX9_hash (wsV RX9 63 RX9 yX9_put wsX9_put) := goodIn_app (goodIn_of _ (by decide +kernel)) ggX9_hash_X9_put
theorem dX9_hash_0 : decode cX9_hash 0 = .ok (.aload_n 0, 1) := by decide +kernel
theorem dX9_hash_1 : decode cX9_hash 1 = .ok (.iload_n 1, 1) := by decide +kernel
theorem dX9_hash_2 : decode cX9_hash 2 = .ok (.i2l, 1) := by decide +kernel
theorem dX9_hash_3 : decode cX9_hash 3 = .ok (.aload_n 0, 1) := by decide +kernel
theorem dX9_hash_4 : decode cX9_hash 4 = .ok (.getfield 115, 3) := by decide +kernel
theorem dX9_hash_7 : decode cX9_hash 7 = .ok (.invokevirtual 56, 3) := by decide +kernel
theorem dX9_hash_10 : decode cX9_hash 10 = .ok (.iconst 0, 1) := by decide +kernel
theorem dX9_hash_11 : decode cX9_hash 11 = .ok (.istore_n 3, 1) := by decide +kernel
theorem dX9_hash_12 : decode cX9_hash 12 = .ok (.iload_n 3, 1) := by decide +kernel
theorem dX9_hash_13 : decode cX9_hash 13 = .ok (.aload_n 0, 1) := by decide +kernel
theorem dX9_hash_14 : decode cX9_hash 14 = .ok (.getfield 115, 3) := by decide +kernel
theorem dX9_hash_17 : decode cX9_hash 17 = .ok (.if_icmp .ge 19, 3) := by decide +kernel
theorem dX9_hash_20 : decode cX9_hash 20 = .ok (.aload_n 0, 1) := by decide +kernel
theorem dX9_hash_21 : decode cX9_hash 21 = .ok (.aload_n 0, 1) := by decide +kernel
theorem dX9_hash_22 : decode cX9_hash 22 = .ok (.getfield 20, 3) := by decide +kernel
theorem dX9_hash_25 : decode cX9_hash 25 = .ok (.iload_n 3, 1) := by decide +kernel
theorem dX9_hash_26 : decode cX9_hash 26 = .ok (.laload, 1) := by decide +kernel
theorem dX9_hash_27 : decode cX9_hash 27 = .ok (.invokevirtual 63, 3) := by decide +kernel
theorem dX9_hash_30 : decode cX9_hash 30 = .ok (.iinc 3 1, 3) := by decide +kernel
theorem dX9_hash_33 : decode cX9_hash 33 = .ok (.goto (-21), 3) := by decide +kernel
theorem dX9_hash_36 : decode cX9_hash 36 = .ok (.iload_n 2, 1) := by decide +kernel
theorem dX9_hash_37 : decode cX9_hash 37 = .ok (.ifCond .ne 10, 3) := by decide +kernel
theorem dX9_hash_40 : decode cX9_hash 40 = .ok (.aload_n 0, 1) := by decide +kernel
theorem dX9_hash_41 : decode cX9_hash 41 = .ok (.getfield 43, 3) := by decide +kernel
theorem dX9_hash_44 : decode cX9_hash 44 = .ok (.goto 16, 3) := by decide +kernel
theorem dX9_hash_47 : decode cX9_hash 47 = .ok (.iload_n 2, 1) := by decide +kernel
theorem dX9_hash_48 : decode cX9_hash 48 = .ok (.iconst 1, 1) := by decide +kernel
theorem dX9_hash_49 : decode cX9_hash 49 = .ok (.if_icmp .ne 10, 3) := by decide +kernel
theorem dX9_hash_52 : decode cX9_hash 52 = .ok (.aload_n 0, 1) := by decide +kernel
theorem dX9_hash_53 : decode cX9_hash 53 = .ok (.getfield 47, 3) := by decide +kernel
theorem dX9_hash_56 : decode cX9_hash 56 = .ok (.goto 4, 3) := by decide +kernel
theorem dX9_hash_59 : decode cX9_hash 59 = .ok (.lconst 0, 1) := by decide +kernel
theorem dX9_hash_60 : decode cX9_hash 60 = .ok (.lreturn, 1) := by decide +kernel
set_option maxRecDepth 20000 in
theorem ggX9_count_X9_leaves : GoodIn wsX9_count wsX9_leaves := goodIn_r _ [10, 5, 11, 12, 13, 14, 15, 16, 17, 18, 19, 20, 21, 22, 23, 24, 25, 26, 27, 28, 29, 30, 31] (by decide +kernel) (by decide +kernel)
set_option maxRecDepth 20000 in
theorem gX9_count_X9_leaves : GoodIn wsX9_count (wsV RX9 81 RX9 yX9_leaves wsX9_leaves) := goodIn_app (goodIn_of _ (by decide +kernel)) ggX9_count_X9_leaves
theorem dX9_count_0 : decode cX9_count 0 = .ok (.iload_n 1, 1) := by decide +kernel
theorem dX9_count_1 : decode cX9_count 1 = .ok (.tableswitch 74 0 4 #[35, 40, 45, 50, 55], 35) := by decide +kernel
theorem dX9_count_36 : decode cX9_count 36 = .ok (.aload_n 0, 1) := by decide +kernel
theorem dX9_count_37 : decode cX9_count 37 = .ok (.invokevirtual 81, 3) := by decide +kernel
theorem dX9_count_40 : decode cX9_count 40 = .ok (.ireturn, 1) := by decide +kernel
theorem dX9_count_41 : decode cX9_count 41 = .ok (.aload_n 0, 1) := by decide +kernel
theorem dX9_count_42 : decode cX9_count 42 = .ok (.getfield 85, 3) := by decide +kernel
theorem dX9_count_45 : decode cX9_count 45 = .ok (.ireturn, 1) := by decide +kernel
theorem dX9_count_46 : decode cX9_count 46 = .ok (.aload_n 0, 1) := by decide +kernel
theorem dX9_count_47 : decode cX9_count 47 = .ok (.getfield 88, 3) := by decide +kernel
theorem dX9_count_50 : decode cX9_count 50 = .ok (.ireturn, 1) := by decide +kernel
theorem dX9_count_51 : decode cX9_count 51 = .ok (.aload_n 0, 1) := by decide +kernel
theorem dX9_count_52 : decode cX9_count 52 = .ok (.getfield 115, 3) := by decide +kernel
theorem dX9_count_55 : decode cX9_count 55 = .ok (.ireturn, 1) := by decide +kernel
theorem dX9_count_56 : decode cX9_count 56 = .ok (.aload_n 0, 1) := by decide +kernel
theorem dX9_count_57 : decode cX9_count 57 = .ok (.getfield 91, 3) := by decide +kernel
theorem dX9_count_60 : decode cX9_count 60 = .ok (.ifCond .eq 13, 3) := by decide +kernel
theorem dX9_count_63 : decode cX9_count 63 = .ok (.bipush 35, 2) := by decide +kernel
theorem dX9_count_65 : decode cX9_count 65 = .ok (.aload_n 0, 1) := by decide +kernel
theorem dX9_count_66 : decode cX9_count 66 = .ok (.getfield 7, 3) := by decide +kernel
theorem dX9_count_69 : decode cX9_count 69 = .ok (.iadd, 1) := by decide +kernel
theorem dX9_count_70 : decode cX9_count 70 = .ok (.goto 4, 3) := by decide +kernel
theorem dX9_count_73 : decode cX9_count 73 = .ok (.iconst 0, 1) := by decide +kernel
theorem dX9_count_74 : decode cX9_count 74 = .ok (.ireturn, 1) := by decide +kernel
theorem dX9_count_75 : decode cX9_count 75 = .ok (.iconst (-1), 1) := by decide +kernel
theorem dX9_count_76 : decode cX9_count 76 = .ok (.ireturn, 1) := by decide +kernel
set_option maxRecDepth 20000 in
theorem ggX9_check_X9_isMade : GoodIn wsX9_check wsX9_isMade := goodIn_r _ [10, 1, 11, 12, 13, 14, 9, 15, 38, 39, 40, 41, 42, 43, 44, 45, 46, 47, 48, 49, 50, 51, 52, 53, 54, 55, 56, 57, 58] (by decide +kernel) (by decide +kernel)
set_option maxRecDepth 20000 in
theorem gX9_check_X9_isMade : GoodIn wsX9_check (wsV RX9 103 RX9 yX9_isMade wsX9_isMade) := goodIn_app (goodIn_of _ (by decide +kernel)) ggX9_check_X9_isMade
set_option maxRecDepth 20000 in
theorem ggX9_check_X9_at : GoodIn wsX9_check wsX9_at := goodIn_r _ [18] (by decide +kernel) (by decide +kernel)
set_option maxRecDepth 20000 in
theorem gX9_check_X9_at : GoodIn wsX9_check (va_wsS RX9 107 yX9_at wsX9_at) := goodIn_app (goodIn_of _ (by decide +kernel)) ggX9_check_X9_at
set_option maxRecDepth 20000 in
theorem ggX9_check_X9_join : GoodIn wsX9_check wsX9_join := goodIn_r _ [22, 23, 24, 25, 26, 27, 9, 28, 4, 5, 29, 30, 31, 32, 33, 34, 35, 36, 37, 38, 39, 40, 41, 42, 43, 44, 45, 46, 47, 48, 49, 50, 51, 52, 53, 54, 55, 56, 57, 58] (by decide +kernel) (by decide +kernel)
set_option maxRecDepth 20000 in
theorem gX9_check_X9_join : GoodIn wsX9_check (wsV RX9 111 RX9 yX9_join wsX9_join) := goodIn_app (goodIn_of _ (by decide +kernel)) ggX9_check_X9_join
theorem dX9_check_0 : decode cX9_check 0 = .ok (.iconst 1, 1) := by decide +kernel
theorem dX9_check_1 : decode cX9_check 1 = .ok (.istore_n 1, 1) := by decide +kernel
theorem dX9_check_2 : decode cX9_check 2 = .ok (.iload_n 1, 1) := by decide +kernel
theorem dX9_check_3 : decode cX9_check 3 = .ok (.aload_n 0, 1) := by decide +kernel
theorem dX9_check_4 : decode cX9_check 4 = .ok (.getfield 7, 3) := by decide +kernel
theorem dX9_check_7 : decode cX9_check 7 = .ok (.if_icmp .gt 108, 3) := by decide +kernel
theorem dX9_check_10 : decode cX9_check 10 = .ok (.iconst 0, 1) := by decide +kernel
theorem dX9_check_11 : decode cX9_check 11 = .ok (.istore_n 2, 1) := by decide +kernel
theorem dX9_check_12 : decode cX9_check 12 = .ok (.aload_n 0, 1) := by decide +kernel
theorem dX9_check_13 : decode cX9_check 13 = .ok (.iload_n 1, 1) := by decide +kernel
theorem dX9_check_14 : decode cX9_check 14 = .ok (.iload_n 2, 1) := by decide +kernel
theorem dX9_check_15 : decode cX9_check 15 = .ok (.invokevirtual 103, 3) := by decide +kernel
theorem dX9_check_18 : decode cX9_check 18 = .ok (.ifCond .eq 91, 3) := by decide +kernel
theorem dX9_check_21 : decode cX9_check 21 = .ok (.iload_n 1, 1) := by decide +kernel
theorem dX9_check_22 : decode cX9_check 22 = .ok (.iconst 1, 1) := by decide +kernel
theorem dX9_check_23 : decode cX9_check 23 = .ok (.isub, 1) := by decide +kernel
theorem dX9_check_24 : decode cX9_check 24 = .ok (.iconst 2, 1) := by decide +kernel
theorem dX9_check_25 : decode cX9_check 25 = .ok (.iload_n 2, 1) := by decide +kernel
theorem dX9_check_26 : decode cX9_check 26 = .ok (.imul, 1) := by decide +kernel
theorem dX9_check_27 : decode cX9_check 27 = .ok (.invokestatic 107, 3) := by decide +kernel
theorem dX9_check_30 : decode cX9_check 30 = .ok (.istore_n 3, 1) := by decide +kernel
theorem dX9_check_31 : decode cX9_check 31 = .ok (.aload_n 0, 1) := by decide +kernel
theorem dX9_check_32 : decode cX9_check 32 = .ok (.iload_n 1, 1) := by decide +kernel
theorem dX9_check_33 : decode cX9_check 33 = .ok (.iload_n 2, 1) := by decide +kernel
theorem dX9_check_34 : decode cX9_check 34 = .ok (.aload_n 0, 1) := by decide +kernel
theorem dX9_check_35 : decode cX9_check 35 = .ok (.getfield 13, 3) := by decide +kernel
theorem dX9_check_38 : decode cX9_check 38 = .ok (.iload_n 3, 1) := by decide +kernel
theorem dX9_check_39 : decode cX9_check 39 = .ok (.laload, 1) := by decide +kernel
theorem dX9_check_40 : decode cX9_check 40 = .ok (.aload_n 0, 1) := by decide +kernel
theorem dX9_check_41 : decode cX9_check 41 = .ok (.getfield 17, 3) := by decide +kernel
theorem dX9_check_44 : decode cX9_check 44 = .ok (.iload_n 3, 1) := by decide +kernel
theorem dX9_check_45 : decode cX9_check 45 = .ok (.laload, 1) := by decide +kernel
theorem dX9_check_46 : decode cX9_check 46 = .ok (.aload_n 0, 1) := by decide +kernel
theorem dX9_check_47 : decode cX9_check 47 = .ok (.getfield 13, 3) := by decide +kernel
theorem dX9_check_50 : decode cX9_check 50 = .ok (.iload_n 3, 1) := by decide +kernel
theorem dX9_check_51 : decode cX9_check 51 = .ok (.iconst 1, 1) := by decide +kernel
theorem dX9_check_52 : decode cX9_check 52 = .ok (.iadd, 1) := by decide +kernel
theorem dX9_check_53 : decode cX9_check 53 = .ok (.laload, 1) := by decide +kernel
theorem dX9_check_54 : decode cX9_check 54 = .ok (.aload_n 0, 1) := by decide +kernel
theorem dX9_check_55 : decode cX9_check 55 = .ok (.getfield 17, 3) := by decide +kernel
theorem dX9_check_58 : decode cX9_check 58 = .ok (.iload_n 3, 1) := by decide +kernel
theorem dX9_check_59 : decode cX9_check 59 = .ok (.iconst 1, 1) := by decide +kernel
theorem dX9_check_60 : decode cX9_check 60 = .ok (.iadd, 1) := by decide +kernel
theorem dX9_check_61 : decode cX9_check 61 = .ok (.laload, 1) := by decide +kernel
theorem dX9_check_62 : decode cX9_check 62 = .ok (.invokevirtual 111, 3) := by decide +kernel
theorem dX9_check_65 : decode cX9_check 65 = .ok (.aload_n 0, 1) := by decide +kernel
theorem dX9_check_66 : decode cX9_check 66 = .ok (.getfield 43, 3) := by decide +kernel
theorem dX9_check_69 : decode cX9_check 69 = .ok (.aload_n 0, 1) := by decide +kernel
theorem dX9_check_70 : decode cX9_check 70 = .ok (.getfield 13, 3) := by decide +kernel
theorem dX9_check_73 : decode cX9_check 73 = .ok (.iload_n 1, 1) := by decide +kernel
theorem dX9_check_74 : decode cX9_check 74 = .ok (.iload_n 2, 1) := by decide +kernel
theorem dX9_check_75 : decode cX9_check 75 = .ok (.invokestatic 107, 3) := by decide +kernel
theorem dX9_check_78 : decode cX9_check 78 = .ok (.laload, 1) := by decide +kernel
theorem dX9_check_79 : decode cX9_check 79 = .ok (.lcmp, 1) := by decide +kernel
theorem dX9_check_80 : decode cX9_check 80 = .ok (.ifCond .ne 21, 3) := by decide +kernel
theorem dX9_check_83 : decode cX9_check 83 = .ok (.aload_n 0, 1) := by decide +kernel
theorem dX9_check_84 : decode cX9_check 84 = .ok (.getfield 47, 3) := by decide +kernel
theorem dX9_check_87 : decode cX9_check 87 = .ok (.aload_n 0, 1) := by decide +kernel
theorem dX9_check_88 : decode cX9_check 88 = .ok (.getfield 17, 3) := by decide +kernel
theorem dX9_check_91 : decode cX9_check 91 = .ok (.iload_n 1, 1) := by decide +kernel
theorem dX9_check_92 : decode cX9_check 92 = .ok (.iload_n 2, 1) := by decide +kernel
theorem dX9_check_93 : decode cX9_check 93 = .ok (.invokestatic 107, 3) := by decide +kernel
theorem dX9_check_96 : decode cX9_check 96 = .ok (.laload, 1) := by decide +kernel
theorem dX9_check_97 : decode cX9_check 97 = .ok (.lcmp, 1) := by decide +kernel
theorem dX9_check_98 : decode cX9_check 98 = .ok (.ifCond .eq 5, 3) := by decide +kernel
theorem dX9_check_101 : decode cX9_check 101 = .ok (.iconst 0, 1) := by decide +kernel
theorem dX9_check_102 : decode cX9_check 102 = .ok (.ireturn, 1) := by decide +kernel
theorem dX9_check_103 : decode cX9_check 103 = .ok (.iinc 2 1, 3) := by decide +kernel
theorem dX9_check_106 : decode cX9_check 106 = .ok (.goto (-94), 3) := by decide +kernel
theorem dX9_check_109 : decode cX9_check 109 = .ok (.iinc 1 1, 3) := by decide +kernel
theorem dX9_check_112 : decode cX9_check 112 = .ok (.goto (-110), 3) := by decide +kernel
theorem dX9_check_115 : decode cX9_check 115 = .ok (.iconst 1, 1) := by decide +kernel
theorem dX9_check_116 : decode cX9_check 116 = .ok (.ireturn, 1) := by decide +kernel
theorem dJ9_min_7cf53_0 : decode cJ9_min_7cf53 0 = .ok (.iload_n 0, 1) := by decide +kernel
theorem dJ9_min_7cf53_1 : decode cJ9_min_7cf53 1 = .ok (.iload_n 1, 1) := by decide +kernel
theorem dJ9_min_7cf53_2 : decode cJ9_min_7cf53 2 = .ok (.if_icmp .gt 7, 3) := by decide +kernel
theorem dJ9_min_7cf53_5 : decode cJ9_min_7cf53 5 = .ok (.iload_n 0, 1) := by decide +kernel
theorem dJ9_min_7cf53_6 : decode cJ9_min_7cf53 6 = .ok (.goto 4, 3) := by decide +kernel
theorem dJ9_min_7cf53_9 : decode cJ9_min_7cf53 9 = .ok (.iload_n 1, 1) := by decide +kernel
theorem dJ9_min_7cf53_10 : decode cJ9_min_7cf53 10 = .ok (.ireturn, 1) := by decide +kernel

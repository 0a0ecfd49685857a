set_option maxRecDepth 20000 in
theorem ggX8_init_X3_init : GoodIn wsX8_init wsX3_init := goodIn_r _ [39, 40, 2, 3, 41, 89, 90, 91, 92] (by decide +kernel) (by decide +kernel)
set_option maxRecDepth 20000 in
theorem gX8_init_X3_init : GoodIn wsX8_init (wsX3_init) := ggX8_init_X3_init
set_option maxRecDepth 20000 in
theorem ggX8_init_X2_init : GoodIn wsX8_init wsX2_init := goodIn_r _ [43, 44, 2, 3] (by decide +kernel) (by decide +kernel)
set_option maxRecDepth 20000 in
theorem gX8_init_X2_init_n18 : GoodIn wsX8_init (wsX2_init) := ggX8_init_X2_init
set_option maxRecDepth 20000 in
theorem ggX8_init_X0_init : GoodIn wsX8_init wsX0_init := goodIn_r _ [47, 48, 2, 3, 49, 33, 34, 50, 51, 9, 10, 52, 53, 54, 55, 56, 57, 58, 42, 43, 44, 114, 104, 105, 102, 103] (by decide +kernel) (by decide +kernel)
set_option maxRecDepth 20000 in
theorem gX8_init_X0_init : GoodIn wsX8_init (wsX0_init) := ggX8_init_X0_init
set_option maxRecDepth 20000 in
theorem ggX8_init_X7_init : GoodIn wsX8_init wsX7_init := goodIn_r _ [61, 62, 2, 3, 63, 33, 34, 64, 65, 66, 54, 55, 56, 57, 58, 114, 106, 107] (by decide +kernel) (by decide +kernel)
set_option maxRecDepth 20000 in
theorem gX8_init_X7_init : GoodIn wsX8_init (wsX7_init) := ggX8_init_X7_init
set_option maxRecDepth 20000 in
theorem ggX8_init_X4_init : GoodIn wsX8_init wsX4_init := goodIn_r _ [69, 70, 2, 3, 57, 71, 72, 108, 109] (by decide +kernel) (by decide +kernel)
set_option maxRecDepth 20000 in
theorem gX8_init_X4_init : GoodIn wsX8_init (wsX4_init) := ggX8_init_X4_init
set_option maxRecDepth 20000 in
theorem ggX8_init_X1_init : GoodIn wsX8_init wsX1_init := goodIn_r _ [75, 76, 2, 3, 77, 78, 110] (by decide +kernel) (by decide +kernel)
set_option maxRecDepth 20000 in
theorem gX8_init_X1_init : GoodIn wsX8_init (wsX1_init) := ggX8_init_X1_init
set_option maxRecDepth 20000 in
theorem ggX8_init_X6_init : GoodIn wsX8_init wsX6_init := goodIn_r _ [81, 82, 2, 3, 83, 33, 34, 84, 85, 86, 87, 54, 55, 56, 57, 58, 114, 111, 112, 113] (by decide +kernel) (by decide +kernel)
set_option maxRecDepth 20000 in
theorem gX8_init_X6_init : GoodIn wsX8_init (wsX6_init) := ggX8_init_X6_init
set_option maxRecDepth 20000 in
theorem ggX8_init_X5_init : GoodIn wsX8_init wsX5_init := goodIn_r _ [55, 56, 2, 3, 57, 58, 114] (by decide +kernel) (by decide +kernel)
set_option maxRecDepth 20000 in
theorem gX8_init_X5_init : GoodIn wsX8_init (wsX5_init) := ggX8_init_X5_init
theorem dX8_init_0 : decode cX8_init 0 = .ok (.aload_n 0, 1) := by decide +kernel
theorem dX8_init_1 : decode cX8_init 1 = .ok (.invokespecial 1, 3) := by decide +kernel
theorem dX8_init_4 : decode cX8_init 4 = .ok (.aload_n 0, 1) := by decide +kernel
theorem dX8_init_5 : decode cX8_init 5 = .ok (.new 7, 3) := by decide +kernel
theorem dX8_init_8 : decode cX8_init 8 = .ok (.dup, 1) := by decide +kernel
theorem dX8_init_9 : decode cX8_init 9 = .ok (.invokespecial 9, 3) := by decide +kernel
theorem dX8_init_12 : decode cX8_init 12 = .ok (.putfield 10, 3) := by decide +kernel
theorem dX8_init_15 : decode cX8_init 15 = .ok (.aload_n 0, 1) := by decide +kernel
theorem dX8_init_16 : decode cX8_init 16 = .ok (.new 16, 3) := by decide +kernel
theorem dX8_init_19 : decode cX8_init 19 = .ok (.dup, 1) := by decide +kernel
theorem dX8_init_20 : decode cX8_init 20 = .ok (.invokespecial 18, 3) := by decide +kernel
theorem dX8_init_23 : decode cX8_init 23 = .ok (.putfield 19, 3) := by decide +kernel
theorem dX8_init_26 : decode cX8_init 26 = .ok (.aload_n 0, 1) := by decide +kernel
theorem dX8_init_27 : decode cX8_init 27 = .ok (.new 23, 3) := by decide +kernel
theorem dX8_init_30 : decode cX8_init 30 = .ok (.dup, 1) := by decide +kernel
theorem dX8_init_31 : decode cX8_init 31 = .ok (.invokespecial 25, 3) := by decide +kernel
theorem dX8_init_34 : decode cX8_init 34 = .ok (.putfield 26, 3) := by decide +kernel
theorem dX8_init_37 : decode cX8_init 37 = .ok (.aload_n 0, 1) := by decide +kernel
theorem dX8_init_38 : decode cX8_init 38 = .ok (.new 30, 3) := by decide +kernel
theorem dX8_init_41 : decode cX8_init 41 = .ok (.dup, 1) := by decide +kernel
theorem dX8_init_42 : decode cX8_init 42 = .ok (.invokespecial 32, 3) := by decide +kernel
theorem dX8_init_45 : decode cX8_init 45 = .ok (.putfield 33, 3) := by decide +kernel
theorem dX8_init_48 : decode cX8_init 48 = .ok (.aload_n 0, 1) := by decide +kernel
theorem dX8_init_49 : decode cX8_init 49 = .ok (.new 37, 3) := by decide +kernel
theorem dX8_init_52 : decode cX8_init 52 = .ok (.dup, 1) := by decide +kernel
theorem dX8_init_53 : decode cX8_init 53 = .ok (.invokespecial 39, 3) := by decide +kernel
theorem dX8_init_56 : decode cX8_init 56 = .ok (.putfield 40, 3) := by decide +kernel
theorem dX8_init_59 : decode cX8_init 59 = .ok (.aload_n 0, 1) := by decide +kernel
theorem dX8_init_60 : decode cX8_init 60 = .ok (.new 44, 3) := by decide +kernel
theorem dX8_init_63 : decode cX8_init 63 = .ok (.dup, 1) := by decide +kernel
theorem dX8_init_64 : decode cX8_init 64 = .ok (.invokespecial 46, 3) := by decide +kernel
theorem dX8_init_67 : decode cX8_init 67 = .ok (.putfield 47, 3) := by decide +kernel
theorem dX8_init_70 : decode cX8_init 70 = .ok (.aload_n 0, 1) := by decide +kernel
theorem dX8_init_71 : decode cX8_init 71 = .ok (.new 51, 3) := by decide +kernel
theorem dX8_init_74 : decode cX8_init 74 = .ok (.dup, 1) := by decide +kernel
theorem dX8_init_75 : decode cX8_init 75 = .ok (.invokespecial 53, 3) := by decide +kernel
theorem dX8_init_78 : decode cX8_init 78 = .ok (.putfield 54, 3) := by decide +kernel
theorem dX8_init_81 : decode cX8_init 81 = .ok (.aload_n 0, 1) := by decide +kernel
theorem dX8_init_82 : decode cX8_init 82 = .ok (.new 58, 3) := by decide +kernel
theorem dX8_init_85 : decode cX8_init 85 = .ok (.dup, 1) := by decide +kernel
theorem dX8_init_86 : decode cX8_init 86 = .ok (.iconst 1, 1) := by decide +kernel
theorem dX8_init_87 : decode cX8_init 87 = .ok (.invokespecial 60, 3) := by decide +kernel
theorem dX8_init_90 : decode cX8_init 90 = .ok (.putfield 63, 3) := by decide +kernel
theorem dX8_init_93 : decode cX8_init 93 = .ok (.aload_n 0, 1) := by decide +kernel
theorem dX8_init_94 : decode cX8_init 94 = .ok (.iconst 0, 1) := by decide +kernel
theorem dX8_init_95 : decode cX8_init 95 = .ok (.putfield 67, 3) := by decide +kernel
theorem dX8_init_98 : decode cX8_init 98 = .ok (.return_, 1) := by decide +kernel
set_option maxRecDepth 20000 in
theorem ggX8_begin_X3_renew : GoodIn wsX8_begin wsX3_renew := goodIn_r _ [9, 10, 11, 12, 13, 36, 37, 38, 39] (by decide +kernel) (by decide +kernel)
set_option maxRecDepth 20000 in
theorem gX8_begin_X3_renew : GoodIn wsX8_begin (wsV RX8 71 RX3 yX3_renew wsX3_renew) := goodIn_app (goodIn_of _ (by decide +kernel)) ggX8_begin_X3_renew
set_option maxRecDepth 20000 in
theorem ggX8_begin_X7_clear : GoodIn wsX8_begin wsX7_clear := goodIn_r _ [18, 19, 40, 41] (by decide +kernel) (by decide +kernel)
set_option maxRecDepth 20000 in
theorem gX8_begin_X7_clear : GoodIn wsX8_begin (wsV RX8 75 RX7 yX7_clear wsX7_clear) := goodIn_app (goodIn_of _ (by decide +kernel)) ggX8_begin_X7_clear
set_option maxRecDepth 20000 in
theorem ggX8_begin_X6_clear : GoodIn wsX8_begin wsX6_clear := goodIn_r _ [24, 25, 26, 42, 43, 44] (by decide +kernel) (by decide +kernel)
set_option maxRecDepth 20000 in
theorem gX8_begin_X6_clear : GoodIn wsX8_begin (wsV RX8 78 RX6 yX6_clear wsX6_clear) := goodIn_app (goodIn_of _ (by decide +kernel)) ggX8_begin_X6_clear
theorem dX8_begin_0 : decode cX8_begin 0 = .ok (.iload 7, 2) := by decide +kernel
theorem dX8_begin_2 : decode cX8_begin 2 = .ok (.iconst 1, 1) := by decide +kernel
theorem dX8_begin_3 : decode cX8_begin 3 = .ok (.if_icmp .lt 9, 3) := by decide +kernel
theorem dX8_begin_6 : decode cX8_begin 6 = .ok (.iload 7, 2) := by decide +kernel
theorem dX8_begin_8 : decode cX8_begin 8 = .ok (.iconst 4, 1) := by decide +kernel
theorem dX8_begin_9 : decode cX8_begin 9 = .ok (.if_icmp .le 5, 3) := by decide +kernel
theorem dX8_begin_12 : decode cX8_begin 12 = .ok (.iconst 0, 1) := by decide +kernel
theorem dX8_begin_13 : decode cX8_begin 13 = .ok (.ireturn, 1) := by decide +kernel
theorem dX8_begin_14 : decode cX8_begin 14 = .ok (.aload_n 0, 1) := by decide +kernel
theorem dX8_begin_15 : decode cX8_begin 15 = .ok (.getfield 10, 3) := by decide +kernel
theorem dX8_begin_18 : decode cX8_begin 18 = .ok (.lload_n 1, 1) := by decide +kernel
theorem dX8_begin_19 : decode cX8_begin 19 = .ok (.lload_n 3, 1) := by decide +kernel
theorem dX8_begin_20 : decode cX8_begin 20 = .ok (.lload 5, 2) := by decide +kernel
theorem dX8_begin_22 : decode cX8_begin 22 = .ok (.iload 7, 2) := by decide +kernel
theorem dX8_begin_24 : decode cX8_begin 24 = .ok (.invokevirtual 71, 3) := by decide +kernel
theorem dX8_begin_27 : decode cX8_begin 27 = .ok (.aload_n 0, 1) := by decide +kernel
theorem dX8_begin_28 : decode cX8_begin 28 = .ok (.getfield 33, 3) := by decide +kernel
theorem dX8_begin_31 : decode cX8_begin 31 = .ok (.invokevirtual 75, 3) := by decide +kernel
theorem dX8_begin_34 : decode cX8_begin 34 = .ok (.aload_n 0, 1) := by decide +kernel
theorem dX8_begin_35 : decode cX8_begin 35 = .ok (.getfield 54, 3) := by decide +kernel
theorem dX8_begin_38 : decode cX8_begin 38 = .ok (.invokevirtual 78, 3) := by decide +kernel
theorem dX8_begin_41 : decode cX8_begin 41 = .ok (.aload_n 0, 1) := by decide +kernel
theorem dX8_begin_42 : decode cX8_begin 42 = .ok (.iconst 0, 1) := by decide +kernel
theorem dX8_begin_43 : decode cX8_begin 43 = .ok (.putfield 67, 3) := by decide +kernel
theorem dX8_begin_46 : decode cX8_begin 46 = .ok (.iconst 1, 1) := by decide +kernel
theorem dX8_begin_47 : decode cX8_begin 47 = .ok (.ireturn, 1) := by decide +kernel
set_option maxRecDepth 20000 in
theorem ggX8_grow_X3_leaves : GoodIn wsX8_grow wsX3_leaves := goodIn_r _ [16, 17, 110, 111, 112, 113] (by decide +kernel) (by decide +kernel)
set_option maxRecDepth 20000 in
theorem gX8_grow_X3_leaves : GoodIn wsX8_grow (wsV RX8 79 RX3 yX3_leaves wsX3_leaves) := goodIn_app (goodIn_of _ (by decide +kernel)) ggX8_grow_X3_leaves
set_option maxRecDepth 20000 in
theorem ggX8_grow_X0_makeEnds : GoodIn wsX8_grow wsX0_makeEnds := goodIn_r _ [22, 23, 24, 25, 26, 27, 21, 28, 29, 30, 31, 32, 33, 34, 35, 36, 37, 38, 39, 40, 41, 42, 43, 44, 45, 46, 47, 48, 49, 50, 51, 52, 53, 54, 55, 56, 57, 58, 59, 60, 61, 62, 63, 64, 65, 66, 67, 68, 69, 70, 114, 115, 110, 111, 112, 113, 116, 117, 118] (by decide +kernel) (by decide +kernel)
set_option maxRecDepth 20000 in
theorem gX8_grow_X0_makeEnds : GoodIn wsX8_grow (wsV RX8 92 RX0 yX0_makeEnds wsX0_makeEnds) := goodIn_app (goodIn_of _ (by decide +kernel)) ggX8_grow_X0_makeEnds
set_option maxRecDepth 20000 in
theorem ggX8_grow_X2_hashLeaf : GoodIn wsX8_grow wsX2_hashLeaf := goodIn_r _ [74, 75, 33, 34, 35, 36, 37, 38, 70, 40, 41, 42, 43, 44, 45, 46, 47, 76, 63, 64, 65, 66, 67, 68, 55, 69, 57, 116, 117, 118] (by decide +kernel) (by decide +kernel)
set_option maxRecDepth 20000 in
theorem gX8_grow_X2_hashLeaf : GoodIn wsX8_grow (wsV RX8 103 RX2 yX2_hashLeaf wsX2_hashLeaf) := goodIn_app (goodIn_of _ (by decide +kernel)) ggX8_grow_X2_hashLeaf
set_option maxRecDepth 20000 in
theorem ggX8_grow_X7_addLeaf : GoodIn wsX8_grow wsX7_addLeaf := goodIn_r _ [81, 82, 83, 84, 85, 86, 80, 87, 88, 49, 50, 35, 51, 37, 38, 52, 53, 54, 55, 56, 57, 89, 90, 91, 92, 93, 94, 95, 96, 97, 75, 33, 34, 36, 70, 40, 41, 42, 43, 44, 45, 46, 47, 98, 63, 64, 65, 66, 67, 68, 69, 108, 109, 110, 111, 112, 113, 116, 117, 118] (by decide +kernel) (by decide +kernel)
set_option maxRecDepth 20000 in
theorem gX8_grow_X7_addLeaf : GoodIn wsX8_grow (wsV RX8 107 RX7 yX7_addLeaf wsX7_addLeaf) := goodIn_app (goodIn_of _ (by decide +kernel)) ggX8_grow_X7_addLeaf
theorem dX8_grow_0 : decode cX8_grow 0 = .ok (.iload_n 1, 1) := by decide +kernel
theorem dX8_grow_1 : decode cX8_grow 1 = .ok (.iconst 1, 1) := by decide +kernel
theorem dX8_grow_2 : decode cX8_grow 2 = .ok (.if_icmp .ge 5, 3) := by decide +kernel
theorem dX8_grow_5 : decode cX8_grow 5 = .ok (.iconst (-1), 1) := by decide +kernel
theorem dX8_grow_6 : decode cX8_grow 6 = .ok (.ireturn, 1) := by decide +kernel
theorem dX8_grow_7 : decode cX8_grow 7 = .ok (.iload_n 1, 1) := by decide +kernel
theorem dX8_grow_8 : decode cX8_grow 8 = .ok (.aload_n 0, 1) := by decide +kernel
theorem dX8_grow_9 : decode cX8_grow 9 = .ok (.getfield 10, 3) := by decide +kernel
theorem dX8_grow_12 : decode cX8_grow 12 = .ok (.invokevirtual 79, 3) := by decide +kernel
theorem dX8_grow_15 : decode cX8_grow 15 = .ok (.aload_n 0, 1) := by decide +kernel
theorem dX8_grow_16 : decode cX8_grow 16 = .ok (.getfield 33, 3) := by decide +kernel
theorem dX8_grow_19 : decode cX8_grow 19 = .ok (.getfield 83, 3) := by decide +kernel
theorem dX8_grow_22 : decode cX8_grow 22 = .ok (.isub, 1) := by decide +kernel
theorem dX8_grow_23 : decode cX8_grow 23 = .ok (.invokestatic 86, 3) := by decide +kernel
theorem dX8_grow_26 : decode cX8_grow 26 = .ok (.istore_n 2, 1) := by decide +kernel
theorem dX8_grow_27 : decode cX8_grow 27 = .ok (.iconst 0, 1) := by decide +kernel
theorem dX8_grow_28 : decode cX8_grow 28 = .ok (.istore_n 3, 1) := by decide +kernel
theorem dX8_grow_29 : decode cX8_grow 29 = .ok (.iload_n 3, 1) := by decide +kernel
theorem dX8_grow_30 : decode cX8_grow 30 = .ok (.iload_n 2, 1) := by decide +kernel
theorem dX8_grow_31 : decode cX8_grow 31 = .ok (.if_icmp .ge 69, 3) := by decide +kernel
theorem dX8_grow_34 : decode cX8_grow 34 = .ok (.aload_n 0, 1) := by decide +kernel
theorem dX8_grow_35 : decode cX8_grow 35 = .ok (.getfield 33, 3) := by decide +kernel
theorem dX8_grow_38 : decode cX8_grow 38 = .ok (.getfield 83, 3) := by decide +kernel
theorem dX8_grow_41 : decode cX8_grow 41 = .ok (.istore 4, 2) := by decide +kernel
theorem dX8_grow_43 : decode cX8_grow 43 = .ok (.aload_n 0, 1) := by decide +kernel
theorem dX8_grow_44 : decode cX8_grow 44 = .ok (.getfield 26, 3) := by decide +kernel
theorem dX8_grow_47 : decode cX8_grow 47 = .ok (.aload_n 0, 1) := by decide +kernel
theorem dX8_grow_48 : decode cX8_grow 48 = .ok (.getfield 10, 3) := by decide +kernel
theorem dX8_grow_51 : decode cX8_grow 51 = .ok (.iload 4, 2) := by decide +kernel
theorem dX8_grow_53 : decode cX8_grow 53 = .ok (.invokevirtual 92, 3) := by decide +kernel
theorem dX8_grow_56 : decode cX8_grow 56 = .ok (.aload_n 0, 1) := by decide +kernel
theorem dX8_grow_57 : decode cX8_grow 57 = .ok (.getfield 19, 3) := by decide +kernel
theorem dX8_grow_60 : decode cX8_grow 60 = .ok (.aload_n 0, 1) := by decide +kernel
theorem dX8_grow_61 : decode cX8_grow 61 = .ok (.getfield 10, 3) := by decide +kernel
theorem dX8_grow_64 : decode cX8_grow 64 = .ok (.getfield 96, 3) := by decide +kernel
theorem dX8_grow_67 : decode cX8_grow 67 = .ok (.iload 4, 2) := by decide +kernel
theorem dX8_grow_69 : decode cX8_grow 69 = .ok (.aload_n 0, 1) := by decide +kernel
theorem dX8_grow_70 : decode cX8_grow 70 = .ok (.getfield 26, 3) := by decide +kernel
theorem dX8_grow_73 : decode cX8_grow 73 = .ok (.getfield 100, 3) := by decide +kernel
theorem dX8_grow_76 : decode cX8_grow 76 = .ok (.invokevirtual 103, 3) := by decide +kernel
theorem dX8_grow_79 : decode cX8_grow 79 = .ok (.aload_n 0, 1) := by decide +kernel
theorem dX8_grow_80 : decode cX8_grow 80 = .ok (.getfield 33, 3) := by decide +kernel
theorem dX8_grow_83 : decode cX8_grow 83 = .ok (.aload_n 0, 1) := by decide +kernel
theorem dX8_grow_84 : decode cX8_grow 84 = .ok (.getfield 10, 3) := by decide +kernel
theorem dX8_grow_87 : decode cX8_grow 87 = .ok (.aload_n 0, 1) := by decide +kernel
theorem dX8_grow_88 : decode cX8_grow 88 = .ok (.getfield 19, 3) := by decide +kernel
theorem dX8_grow_91 : decode cX8_grow 91 = .ok (.invokevirtual 107, 3) := by decide +kernel
theorem dX8_grow_94 : decode cX8_grow 94 = .ok (.iinc 3 1, 3) := by decide +kernel
theorem dX8_grow_97 : decode cX8_grow 97 = .ok (.goto (-68), 3) := by decide +kernel
theorem dX8_grow_100 : decode cX8_grow 100 = .ok (.aload_n 0, 1) := by decide +kernel
theorem dX8_grow_101 : decode cX8_grow 101 = .ok (.getfield 10, 3) := by decide +kernel
theorem dX8_grow_104 : decode cX8_grow 104 = .ok (.invokevirtual 79, 3) := by decide +kernel
theorem dX8_grow_107 : decode cX8_grow 107 = .ok (.aload_n 0, 1) := by decide +kernel
theorem dX8_grow_108 : decode cX8_grow 108 = .ok (.getfield 33, 3) := by decide +kernel
theorem dX8_grow_111 : decode cX8_grow 111 = .ok (.getfield 83, 3) := by decide +kernel
theorem dX8_grow_114 : decode cX8_grow 114 = .ok (.isub, 1) := by decide +kernel
theorem dX8_grow_115 : decode cX8_grow 115 = .ok (.ireturn, 1) := by decide +kernel
set_option maxRecDepth 20000 in
theorem ggX8_node_X8_isHalf : GoodIn wsX8_node wsX8_isHalf := goodIn_r _ [8] (by decide +kernel) (by decide +kernel)
set_option maxRecDepth 20000 in
theorem gX8_node_X8_isHalf : GoodIn wsX8_node (va_wsS RX8 111 yX8_isHalf wsX8_isHalf) := goodIn_app (goodIn_of _ (by decide +kernel)) ggX8_node_X8_isHalf
set_option maxRecDepth 20000 in
theorem ggX8_node_X7_isMade : GoodIn wsX8_node wsX7_isMade := goodIn_r _ [13, 14, 37, 38] (by decide +kernel) (by decide +kernel)
set_option maxRecDepth 20000 in
theorem gX8_node_X7_isMade : GoodIn wsX8_node (wsV RX8 118 RX7 yX7_isMade wsX7_isMade) := goodIn_app (goodIn_of _ (by decide +kernel)) ggX8_node_X7_isMade
set_option maxRecDepth 20000 in
theorem ggX8_node_X7_slot : GoodIn wsX8_node wsX7_slot := goodIn_r _ [17] (by decide +kernel) (by decide +kernel)
set_option maxRecDepth 20000 in
theorem gX8_node_X7_slot : GoodIn wsX8_node (va_wsS RX8 125 yX7_slot wsX7_slot) := goodIn_app (goodIn_of _ (by decide +kernel)) ggX8_node_X7_slot
set_option maxRecDepth 20000 in
theorem ggX8_node_X5_at : GoodIn wsX8_node wsX5_at := goodIn_r _ [22, 23, 39] (by decide +kernel) (by decide +kernel)
set_option maxRecDepth 20000 in
theorem gX8_node_X5_at : GoodIn wsX8_node (wsV RX8 129 RX5 yX5_at wsX5_at) := goodIn_app (goodIn_of _ (by decide +kernel)) ggX8_node_X5_at
theorem dX8_node_0 : decode cX8_node 0 = .ok (.iload_n 3, 1) := by decide +kernel
theorem dX8_node_1 : decode cX8_node 1 = .ok (.invokestatic 111, 3) := by decide +kernel
theorem dX8_node_4 : decode cX8_node 4 = .ok (.ifCond .eq 22, 3) := by decide +kernel
theorem dX8_node_7 : decode cX8_node 7 = .ok (.aload_n 0, 1) := by decide +kernel
theorem dX8_node_8 : decode cX8_node 8 = .ok (.getfield 33, 3) := by decide +kernel
theorem dX8_node_11 : decode cX8_node 11 = .ok (.aload_n 0, 1) := by decide +kernel
theorem dX8_node_12 : decode cX8_node 12 = .ok (.getfield 10, 3) := by decide +kernel
theorem dX8_node_15 : decode cX8_node 15 = .ok (.getfield 115, 3) := by decide +kernel
theorem dX8_node_18 : decode cX8_node 18 = .ok (.iload_n 1, 1) := by decide +kernel
theorem dX8_node_19 : decode cX8_node 19 = .ok (.iload_n 2, 1) := by decide +kernel
theorem dX8_node_20 : decode cX8_node 20 = .ok (.invokevirtual 118, 3) := by decide +kernel
theorem dX8_node_23 : decode cX8_node 23 = .ok (.ifCond .ne 5, 3) := by decide +kernel
theorem dX8_node_26 : decode cX8_node 26 = .ok (.lconst 0, 1) := by decide +kernel
theorem dX8_node_27 : decode cX8_node 27 = .ok (.lreturn, 1) := by decide +kernel
theorem dX8_node_28 : decode cX8_node 28 = .ok (.aload_n 0, 1) := by decide +kernel
theorem dX8_node_29 : decode cX8_node 29 = .ok (.getfield 33, 3) := by decide +kernel
theorem dX8_node_32 : decode cX8_node 32 = .ok (.getfield 122, 3) := by decide +kernel
theorem dX8_node_35 : decode cX8_node 35 = .ok (.aload_n 0, 1) := by decide +kernel
theorem dX8_node_36 : decode cX8_node 36 = .ok (.getfield 10, 3) := by decide +kernel
theorem dX8_node_39 : decode cX8_node 39 = .ok (.getfield 115, 3) := by decide +kernel
theorem dX8_node_42 : decode cX8_node 42 = .ok (.iload_n 1, 1) := by decide +kernel
theorem dX8_node_43 : decode cX8_node 43 = .ok (.iload_n 2, 1) := by decide +kernel
theorem dX8_node_44 : decode cX8_node 44 = .ok (.invokestatic 125, 3) := by decide +kernel
theorem dX8_node_47 : decode cX8_node 47 = .ok (.iload_n 3, 1) := by decide +kernel
theorem dX8_node_48 : decode cX8_node 48 = .ok (.invokevirtual 129, 3) := by decide +kernel
theorem dX8_node_51 : decode cX8_node 51 = .ok (.lreturn, 1) := by decide +kernel
set_option maxRecDepth 20000 in
theorem ggX8_feed_X4_isFull : GoodIn wsX8_feed wsX4_isFull := goodIn_r _ [7, 8, 23, 24] (by decide +kernel) (by decide +kernel)
set_option maxRecDepth 20000 in
theorem gX8_feed_X4_isFull : GoodIn wsX8_feed (wsV RX8 133 RX4 yX4_isFull wsX4_isFull) := goodIn_app (goodIn_of _ (by decide +kernel)) ggX8_feed_X4_isFull
set_option maxRecDepth 20000 in
theorem ggX8_feed_X4_append : GoodIn wsX8_feed wsX4_append := goodIn_r _ [12, 13, 8, 23, 24] (by decide +kernel) (by decide +kernel)
set_option maxRecDepth 20000 in
theorem gX8_feed_X4_append : GoodIn wsX8_feed (wsV RX8 137 RX4 yX4_append wsX4_append) := goodIn_app (goodIn_of _ (by decide +kernel)) ggX8_feed_X4_append
theorem dX8_feed_0 : decode cX8_feed 0 = .ok (.aload_n 0, 1) := by decide +kernel
theorem dX8_feed_1 : decode cX8_feed 1 = .ok (.getfield 40, 3) := by decide +kernel
theorem dX8_feed_4 : decode cX8_feed 4 = .ok (.invokevirtual 133, 3) := by decide +kernel
theorem dX8_feed_7 : decode cX8_feed 7 = .ok (.ifCond .eq 5, 3) := by decide +kernel
theorem dX8_feed_10 : decode cX8_feed 10 = .ok (.iconst (-1), 1) := by decide +kernel
theorem dX8_feed_11 : decode cX8_feed 11 = .ok (.ireturn, 1) := by decide +kernel
theorem dX8_feed_12 : decode cX8_feed 12 = .ok (.aload_n 0, 1) := by decide +kernel
theorem dX8_feed_13 : decode cX8_feed 13 = .ok (.getfield 40, 3) := by decide +kernel
theorem dX8_feed_16 : decode cX8_feed 16 = .ok (.lload_n 1, 1) := by decide +kernel
theorem dX8_feed_17 : decode cX8_feed 17 = .ok (.invokevirtual 137, 3) := by decide +kernel
theorem dX8_feed_20 : decode cX8_feed 20 = .ok (.aload_n 0, 1) := by decide +kernel
theorem dX8_feed_21 : decode cX8_feed 21 = .ok (.getfield 40, 3) := by decide +kernel
theorem dX8_feed_24 : decode cX8_feed 24 = .ok (.getfield 141, 3) := by decide +kernel
theorem dX8_feed_27 : decode cX8_feed 27 = .ok (.ireturn, 1) := by decide +kernel
set_option maxRecDepth 20000 in
theorem ggX8_reset_X4_clear : GoodIn wsX8_reset wsX4_clear := goodIn_r _ [7, 8, 18, 19] (by decide +kernel) (by decide +kernel)
set_option maxRecDepth 20000 in
theorem gX8_reset_X4_clear : GoodIn wsX8_reset (wsV RX8 144 RX4 yX4_clear wsX4_clear) := goodIn_app (goodIn_of _ (by decide +kernel)) ggX8_reset_X4_clear
theorem dX8_reset_0 : decode cX8_reset 0 = .ok (.aload_n 0, 1) := by decide +kernel
theorem dX8_reset_1 : decode cX8_reset 1 = .ok (.getfield 40, 3) := by decide +kernel
theorem dX8_reset_4 : decode cX8_reset 4 = .ok (.getfield 141, 3) := by decide +kernel
theorem dX8_reset_7 : decode cX8_reset 7 = .ok (.istore_n 1, 1) := by decide +kernel
theorem dX8_reset_8 : decode cX8_reset 8 = .ok (.aload_n 0, 1) := by decide +kernel
theorem dX8_reset_9 : decode cX8_reset 9 = .ok (.getfield 40, 3) := by decide +kernel
theorem dX8_reset_12 : decode cX8_reset 12 = .ok (.invokevirtual 144, 3) := by decide +kernel
theorem dX8_reset_15 : decode cX8_reset 15 = .ok (.iload_n 1, 1) := by decide +kernel
theorem dX8_reset_16 : decode cX8_reset 16 = .ok (.ireturn, 1) := by decide +kernel
set_option maxRecDepth 20000 in
theorem ggX8_digit_X3_hasLeaf : GoodIn wsX8_digit wsX3_hasLeaf := goodIn_r _ [10, 11, 12, 13, 9, 14, 15, 92, 93, 94, 95] (by decide +kernel) (by decide +kernel)
set_option maxRecDepth 20000 in
theorem gX8_digit_X3_hasLeaf : GoodIn wsX8_digit (wsV RX8 145 RX3 yX3_hasLeaf wsX3_hasLeaf) := goodIn_app (goodIn_of _ (by decide +kernel)) ggX8_digit_X3_hasLeaf
set_option maxRecDepth 20000 in
theorem ggX8_digit_X8_isRootMade : GoodIn wsX8_digit wsX8_isRootMade := goodIn_r _ [20, 2, 1, 21, 22, 23, 24, 25, 26, 27, 80, 81, 82, 83, 84, 85, 86, 87, 88, 92, 93, 94, 95, 89, 90] (by decide +kernel) (by decide +kernel)
set_option maxRecDepth 20000 in
theorem gX8_digit_X8_isRootMade : GoodIn wsX8_digit (wsV RX8 148 RX8 yX8_isRootMade wsX8_isRootMade) := goodIn_app (goodIn_of _ (by decide +kernel)) ggX8_digit_X8_isRootMade
set_option maxRecDepth 20000 in
theorem ggX8_digit_X8_readDigits : GoodIn wsX8_digit wsX8_readDigits := goodIn_r _ [31, 32, 33, 34, 1, 35, 4, 36, 37, 38, 39, 40, 41, 42, 43, 44, 45, 46, 47, 48, 49, 50, 51, 52, 53, 54, 55, 56, 57, 58, 59, 60, 61, 62, 63, 64, 65, 66, 67, 68, 69, 70, 71, 72, 73, 74, 75, 76, 77, 78, 79, 80, 81, 82, 83, 84, 85, 86, 87, 88, 96, 97, 92, 93, 94, 95, 98, 99, 100, 91] (by decide +kernel) (by decide +kernel)
set_option maxRecDepth 20000 in
theorem gX8_digit_X8_readDigits : GoodIn wsX8_digit (wsV RX8 151 RX8 yX8_readDigits wsX8_readDigits) := goodIn_app (goodIn_of _ (by decide +kernel)) ggX8_digit_X8_readDigits
theorem dX8_digit_0 : decode cX8_digit 0 = .ok (.aload_n 0, 1) := by decide +kernel
theorem dX8_digit_1 : decode cX8_digit 1 = .ok (.getfield 10, 3) := by decide +kernel
theorem dX8_digit_4 : decode cX8_digit 4 = .ok (.iload_n 1, 1) := by decide +kernel
theorem dX8_digit_5 : decode cX8_digit 5 = .ok (.invokevirtual 145, 3) := by decide +kernel
theorem dX8_digit_8 : decode cX8_digit 8 = .ok (.ifCond .eq 20, 3) := by decide +kernel
theorem dX8_digit_11 : decode cX8_digit 11 = .ok (.iload_n 2, 1) := by decide +kernel
theorem dX8_digit_12 : decode cX8_digit 12 = .ok (.ifCond .lt 16, 3) := by decide +kernel
theorem dX8_digit_15 : decode cX8_digit 15 = .ok (.iload_n 2, 1) := by decide +kernel
theorem dX8_digit_16 : decode cX8_digit 16 = .ok (.bipush 35, 2) := by decide +kernel
theorem dX8_digit_18 : decode cX8_digit 18 = .ok (.if_icmp .ge 10, 3) := by decide +kernel
theorem dX8_digit_21 : decode cX8_digit 21 = .ok (.aload_n 0, 1) := by decide +kernel
theorem dX8_digit_22 : decode cX8_digit 22 = .ok (.invokevirtual 148, 3) := by decide +kernel
theorem dX8_digit_25 : decode cX8_digit 25 = .ok (.ifCond .ne 5, 3) := by decide +kernel
theorem dX8_digit_28 : decode cX8_digit 28 = .ok (.iconst (-1), 1) := by decide +kernel
theorem dX8_digit_29 : decode cX8_digit 29 = .ok (.ireturn, 1) := by decide +kernel
theorem dX8_digit_30 : decode cX8_digit 30 = .ok (.aload_n 0, 1) := by decide +kernel
theorem dX8_digit_31 : decode cX8_digit 31 = .ok (.iload_n 1, 1) := by decide +kernel
theorem dX8_digit_32 : decode cX8_digit 32 = .ok (.aload_n 0, 1) := by decide +kernel
theorem dX8_digit_33 : decode cX8_digit 33 = .ok (.getfield 33, 3) := by decide +kernel
theorem dX8_digit_36 : decode cX8_digit 36 = .ok (.getfield 122, 3) := by decide +kernel
theorem dX8_digit_39 : decode cX8_digit 39 = .ok (.iconst 1, 1) := by decide +kernel
theorem dX8_digit_40 : decode cX8_digit 40 = .ok (.invokevirtual 151, 3) := by decide +kernel
theorem dX8_digit_43 : decode cX8_digit 43 = .ok (.aload_n 0, 1) := by decide +kernel
theorem dX8_digit_44 : decode cX8_digit 44 = .ok (.getfield 47, 3) := by decide +kernel
theorem dX8_digit_47 : decode cX8_digit 47 = .ok (.getfield 155, 3) := by decide +kernel
theorem dX8_digit_50 : decode cX8_digit 50 = .ok (.iload_n 2, 1) := by decide +kernel
theorem dX8_digit_51 : decode cX8_digit 51 = .ok (.iaload, 1) := by decide +kernel
theorem dX8_digit_52 : decode cX8_digit 52 = .ok (.ireturn, 1) := by decide +kernel

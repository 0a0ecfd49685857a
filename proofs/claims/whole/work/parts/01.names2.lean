set_option maxRecDepth 20000 in
theorem ggX0_init_X5_init : GoodIn wsX0_init wsX5_init := goodIn_r _ [14, 15, 2, 3, 16, 17, 21] (by decide +kernel) (by decide +kernel)
set_option maxRecDepth 20000 in
theorem gX0_init_X5_init : GoodIn wsX0_init (wsX5_init) := ggX0_init_X5_init
set_option maxRecDepth 20000 in
theorem ggX0_init_X2_init : GoodIn wsX0_init wsX2_init := goodIn_r _ [19, 20, 2, 3] (by decide +kernel) (by decide +kernel)
set_option maxRecDepth 20000 in
theorem gX0_init_X2_init_n22 : GoodIn wsX0_init (wsX2_init) := ggX0_init_X2_init
theorem dX0_init_0 : decode cX0_init 0 = .ok (.aload_n 0, 1) := by decide +kernel
theorem dX0_init_1 : decode cX0_init 1 = .ok (.invokespecial 3, 3) := by decide +kernel
theorem dX0_init_4 : decode cX0_init 4 = .ok (.aload_n 0, 1) := by decide +kernel
theorem dX0_init_5 : decode cX0_init 5 = .ok (.new 9, 3) := by decide +kernel
theorem dX0_init_8 : decode cX0_init 8 = .ok (.dup, 1) := by decide +kernel
theorem dX0_init_9 : decode cX0_init 9 = .ok (.bipush 35, 2) := by decide +kernel
theorem dX0_init_11 : decode cX0_init 11 = .ok (.invokespecial 11, 3) := by decide +kernel
theorem dX0_init_14 : decode cX0_init 14 = .ok (.putfield 14, 3) := by decide +kernel
theorem dX0_init_17 : decode cX0_init 17 = .ok (.aload_n 0, 1) := by decide +kernel
theorem dX0_init_18 : decode cX0_init 18 = .ok (.new 20, 3) := by decide +kernel
theorem dX0_init_21 : decode cX0_init 21 = .ok (.dup, 1) := by decide +kernel
theorem dX0_init_22 : decode cX0_init 22 = .ok (.invokespecial 22, 3) := by decide +kernel
theorem dX0_init_25 : decode cX0_init 25 = .ok (.putfield 23, 3) := by decide +kernel
theorem dX0_init_28 : decode cX0_init 28 = .ok (.return_, 1) := by decide +kernel
set_option maxRecDepth 20000 in
theorem ggX0_makeStart_X2_start : GoodIn wsX0_makeStart wsX2_start := goodIn_r _ [8, 9, 10, 36, 37] (by decide +kernel) (by decide +kernel)
set_option maxRecDepth 20000 in
theorem gX0_makeStart_X2_start : GoodIn wsX0_makeStart (wsV RX0 27 RX2 yX2_start wsX2_start) := goodIn_app (goodIn_of _ (by decide +kernel)) ggX0_makeStart_X2_start
set_option maxRecDepth 20000 in
theorem ggX0_makeStart_X2_add : GoodIn wsX0_makeStart wsX2_add := goodIn_r _ [14, 9, 10, 15, 16, 7, 17, 18, 19, 36, 37] (by decide +kernel) (by decide +kernel)
set_option maxRecDepth 20000 in
theorem gX0_makeStart_X2_add : GoodIn wsX0_makeStart (wsV RX0 37 RX2 yX2_add wsX2_add) := goodIn_app (goodIn_of _ (by decide +kernel)) ggX0_makeStart_X2_add
set_option maxRecDepth 20000 in
theorem ggX0_makeStart_X2_giveTo : GoodIn wsX0_makeStart wsX2_giveTo := goodIn_r _ [23, 9, 10, 24, 25, 26, 27, 28, 29, 36, 37, 38] (by decide +kernel) (by decide +kernel)
set_option maxRecDepth 20000 in
theorem gX0_makeStart_X2_giveTo : GoodIn wsX0_makeStart (wsV RX0 44 RX2 yX2_giveTo wsX2_giveTo) := goodIn_app (goodIn_of _ (by decide +kernel)) ggX0_makeStart_X2_giveTo
theorem dX0_makeStart_0 : decode cX0_makeStart 0 = .ok (.aload_n 0, 1) := by decide +kernel
theorem dX0_makeStart_1 : decode cX0_makeStart 1 = .ok (.getfield 23, 3) := by decide +kernel
theorem dX0_makeStart_4 : decode cX0_makeStart 4 = .ok (.iconst 1, 1) := by decide +kernel
theorem dX0_makeStart_5 : decode cX0_makeStart 5 = .ok (.iconst 4, 1) := by decide +kernel
theorem dX0_makeStart_6 : decode cX0_makeStart 6 = .ok (.invokevirtual 27, 3) := by decide +kernel
theorem dX0_makeStart_9 : decode cX0_makeStart 9 = .ok (.aload_n 0, 1) := by decide +kernel
theorem dX0_makeStart_10 : decode cX0_makeStart 10 = .ok (.getfield 23, 3) := by decide +kernel
theorem dX0_makeStart_13 : decode cX0_makeStart 13 = .ok (.aload_n 1, 1) := by decide +kernel
theorem dX0_makeStart_14 : decode cX0_makeStart 14 = .ok (.getfield 31, 3) := by decide +kernel
theorem dX0_makeStart_17 : decode cX0_makeStart 17 = .ok (.invokevirtual 37, 3) := by decide +kernel
theorem dX0_makeStart_20 : decode cX0_makeStart 20 = .ok (.aload_n 0, 1) := by decide +kernel
theorem dX0_makeStart_21 : decode cX0_makeStart 21 = .ok (.getfield 23, 3) := by decide +kernel
theorem dX0_makeStart_24 : decode cX0_makeStart 24 = .ok (.aload_n 1, 1) := by decide +kernel
theorem dX0_makeStart_25 : decode cX0_makeStart 25 = .ok (.getfield 41, 3) := by decide +kernel
theorem dX0_makeStart_28 : decode cX0_makeStart 28 = .ok (.invokevirtual 37, 3) := by decide +kernel
theorem dX0_makeStart_31 : decode cX0_makeStart 31 = .ok (.aload_n 0, 1) := by decide +kernel
theorem dX0_makeStart_32 : decode cX0_makeStart 32 = .ok (.getfield 23, 3) := by decide +kernel
theorem dX0_makeStart_35 : decode cX0_makeStart 35 = .ok (.iload_n 2, 1) := by decide +kernel
theorem dX0_makeStart_36 : decode cX0_makeStart 36 = .ok (.i2l, 1) := by decide +kernel
theorem dX0_makeStart_37 : decode cX0_makeStart 37 = .ok (.invokevirtual 37, 3) := by decide +kernel
theorem dX0_makeStart_40 : decode cX0_makeStart 40 = .ok (.aload_n 0, 1) := by decide +kernel
theorem dX0_makeStart_41 : decode cX0_makeStart 41 = .ok (.getfield 23, 3) := by decide +kernel
theorem dX0_makeStart_44 : decode cX0_makeStart 44 = .ok (.iload_n 3, 1) := by decide +kernel
theorem dX0_makeStart_45 : decode cX0_makeStart 45 = .ok (.i2l, 1) := by decide +kernel
theorem dX0_makeStart_46 : decode cX0_makeStart 46 = .ok (.invokevirtual 37, 3) := by decide +kernel
theorem dX0_makeStart_49 : decode cX0_makeStart 49 = .ok (.aload_n 0, 1) := by decide +kernel
theorem dX0_makeStart_50 : decode cX0_makeStart 50 = .ok (.getfield 23, 3) := by decide +kernel
theorem dX0_makeStart_53 : decode cX0_makeStart 53 = .ok (.aload 4, 2) := by decide +kernel
theorem dX0_makeStart_55 : decode cX0_makeStart 55 = .ok (.iload_n 3, 1) := by decide +kernel
theorem dX0_makeStart_56 : decode cX0_makeStart 56 = .ok (.invokevirtual 44, 3) := by decide +kernel
theorem dX0_makeStart_59 : decode cX0_makeStart 59 = .ok (.return_, 1) := by decide +kernel
set_option maxRecDepth 20000 in
theorem ggX0_carry_X2_start : GoodIn wsX0_carry wsX2_start := goodIn_r _ [6, 7, 8, 39, 40] (by decide +kernel) (by decide +kernel)
set_option maxRecDepth 20000 in
theorem gX0_carry_X2_start : GoodIn wsX0_carry (wsV RX0 27 RX2 yX2_start wsX2_start) := goodIn_app (goodIn_of _ (by decide +kernel)) ggX0_carry_X2_start
set_option maxRecDepth 20000 in
theorem ggX0_carry_X2_add : GoodIn wsX0_carry wsX2_add := goodIn_r _ [12, 7, 8, 13, 14, 5, 15, 16, 17, 39, 40] (by decide +kernel) (by decide +kernel)
set_option maxRecDepth 20000 in
theorem gX0_carry_X2_add : GoodIn wsX0_carry (wsV RX0 37 RX2 yX2_add wsX2_add) := goodIn_app (goodIn_of _ (by decide +kernel)) ggX0_carry_X2_add
set_option maxRecDepth 20000 in
theorem ggX0_carry_X2_addPair : GoodIn wsX0_carry wsX2_addPair := goodIn_r _ [21, 22, 23, 24, 25, 26, 27, 28, 10, 11, 5, 12, 7, 8, 13, 14, 15, 16, 17, 41, 39, 40] (by decide +kernel) (by decide +kernel)
set_option maxRecDepth 20000 in
theorem gX0_carry_X2_addPair : GoodIn wsX0_carry (wsV RX0 48 RX2 yX2_addPair wsX2_addPair) := goodIn_app (goodIn_of _ (by decide +kernel)) ggX0_carry_X2_addPair
set_option maxRecDepth 20000 in
theorem ggX0_carry_X2_giveTo : GoodIn wsX0_carry wsX2_giveTo := goodIn_r _ [32, 7, 8, 33, 34, 35, 25, 36, 27, 39, 40, 41] (by decide +kernel) (by decide +kernel)
set_option maxRecDepth 20000 in
theorem gX0_carry_X2_giveTo : GoodIn wsX0_carry (wsV RX0 44 RX2 yX2_giveTo wsX2_giveTo) := goodIn_app (goodIn_of _ (by decide +kernel)) ggX0_carry_X2_giveTo
theorem dX0_carry_0 : decode cX0_carry 0 = .ok (.iload 5, 2) := by decide +kernel
theorem dX0_carry_2 : decode cX0_carry 2 = .ok (.istore 8, 2) := by decide +kernel
theorem dX0_carry_4 : decode cX0_carry 4 = .ok (.iload 8, 2) := by decide +kernel
theorem dX0_carry_6 : decode cX0_carry 6 = .ok (.iload 6, 2) := by decide +kernel
theorem dX0_carry_8 : decode cX0_carry 8 = .ok (.if_icmp .ge 78, 3) := by decide +kernel
theorem dX0_carry_11 : decode cX0_carry 11 = .ok (.aload_n 0, 1) := by decide +kernel
theorem dX0_carry_12 : decode cX0_carry 12 = .ok (.getfield 23, 3) := by decide +kernel
theorem dX0_carry_15 : decode cX0_carry 15 = .ok (.iconst 2, 1) := by decide +kernel
theorem dX0_carry_16 : decode cX0_carry 16 = .ok (.bipush 6, 2) := by decide +kernel
theorem dX0_carry_18 : decode cX0_carry 18 = .ok (.invokevirtual 27, 3) := by decide +kernel
theorem dX0_carry_21 : decode cX0_carry 21 = .ok (.aload_n 0, 1) := by decide +kernel
theorem dX0_carry_22 : decode cX0_carry 22 = .ok (.getfield 23, 3) := by decide +kernel
theorem dX0_carry_25 : decode cX0_carry 25 = .ok (.lload_n 1, 1) := by decide +kernel
theorem dX0_carry_26 : decode cX0_carry 26 = .ok (.invokevirtual 37, 3) := by decide +kernel
theorem dX0_carry_29 : decode cX0_carry 29 = .ok (.aload_n 0, 1) := by decide +kernel
theorem dX0_carry_30 : decode cX0_carry 30 = .ok (.getfield 23, 3) := by decide +kernel
theorem dX0_carry_33 : decode cX0_carry 33 = .ok (.iload_n 3, 1) := by decide +kernel
theorem dX0_carry_34 : decode cX0_carry 34 = .ok (.i2l, 1) := by decide +kernel
theorem dX0_carry_35 : decode cX0_carry 35 = .ok (.invokevirtual 37, 3) := by decide +kernel
theorem dX0_carry_38 : decode cX0_carry 38 = .ok (.aload_n 0, 1) := by decide +kernel
theorem dX0_carry_39 : decode cX0_carry 39 = .ok (.getfield 23, 3) := by decide +kernel
theorem dX0_carry_42 : decode cX0_carry 42 = .ok (.iload 4, 2) := by decide +kernel
theorem dX0_carry_44 : decode cX0_carry 44 = .ok (.i2l, 1) := by decide +kernel
theorem dX0_carry_45 : decode cX0_carry 45 = .ok (.invokevirtual 37, 3) := by decide +kernel
theorem dX0_carry_48 : decode cX0_carry 48 = .ok (.aload_n 0, 1) := by decide +kernel
theorem dX0_carry_49 : decode cX0_carry 49 = .ok (.getfield 23, 3) := by decide +kernel
theorem dX0_carry_52 : decode cX0_carry 52 = .ok (.iload 8, 2) := by decide +kernel
theorem dX0_carry_54 : decode cX0_carry 54 = .ok (.i2l, 1) := by decide +kernel
theorem dX0_carry_55 : decode cX0_carry 55 = .ok (.invokevirtual 37, 3) := by decide +kernel
theorem dX0_carry_58 : decode cX0_carry 58 = .ok (.aload_n 0, 1) := by decide +kernel
theorem dX0_carry_59 : decode cX0_carry 59 = .ok (.getfield 23, 3) := by decide +kernel
theorem dX0_carry_62 : decode cX0_carry 62 = .ok (.aload 7, 2) := by decide +kernel
theorem dX0_carry_64 : decode cX0_carry 64 = .ok (.iload 4, 2) := by decide +kernel
theorem dX0_carry_66 : decode cX0_carry 66 = .ok (.invokevirtual 48, 3) := by decide +kernel
theorem dX0_carry_69 : decode cX0_carry 69 = .ok (.aload_n 0, 1) := by decide +kernel
theorem dX0_carry_70 : decode cX0_carry 70 = .ok (.getfield 23, 3) := by decide +kernel
theorem dX0_carry_73 : decode cX0_carry 73 = .ok (.aload 7, 2) := by decide +kernel
theorem dX0_carry_75 : decode cX0_carry 75 = .ok (.iload 4, 2) := by decide +kernel
theorem dX0_carry_77 : decode cX0_carry 77 = .ok (.invokevirtual 44, 3) := by decide +kernel
theorem dX0_carry_80 : decode cX0_carry 80 = .ok (.iinc 8 1, 3) := by decide +kernel
theorem dX0_carry_83 : decode cX0_carry 83 = .ok (.goto (-79), 3) := by decide +kernel
theorem dX0_carry_86 : decode cX0_carry 86 = .ok (.return_, 1) := by decide +kernel
set_option maxRecDepth 20000 in
theorem ggX0_makeEnds_X0_makeStart : GoodIn wsX0_makeEnds wsX0_makeStart := goodIn_r _ [7, 8, 9, 10, 11, 12, 13, 14, 15, 16, 17, 18, 19, 20, 21, 22, 23, 24, 25, 26, 27, 28, 29, 30, 31, 32, 33, 34, 35, 36, 50, 51, 52, 53, 54, 55, 56, 57, 58] (by decide +kernel) (by decide +kernel)
set_option maxRecDepth 20000 in
theorem gX0_makeEnds_X0_makeStart : GoodIn wsX0_makeEnds (wsV RX0 51 RX0 yX0_makeStart wsX0_makeStart) := goodIn_app (goodIn_of _ (by decide +kernel)) ggX0_makeEnds_X0_makeStart
set_option maxRecDepth 20000 in
theorem ggX0_makeEnds_X0_carry : GoodIn wsX0_makeEnds wsX0_carry := goodIn_r _ [40, 8, 11, 12, 13, 14, 15, 16, 17, 18, 19, 20, 21, 22, 23, 24, 25, 26, 41, 42, 43, 44, 45, 46, 47, 34, 48, 36, 49, 27, 28, 29, 30, 31, 32, 33, 35, 50, 51, 56, 57, 58] (by decide +kernel) (by decide +kernel)
set_option maxRecDepth 20000 in
theorem gX0_makeEnds_X0_carry : GoodIn wsX0_makeEnds (wsV RX0 58 RX0 yX0_carry wsX0_carry) := goodIn_app (goodIn_of _ (by decide +kernel)) ggX0_makeEnds_X0_carry
theorem dX0_makeEnds_0 : decode cX0_makeEnds 0 = .ok (.iconst 0, 1) := by decide +kernel
theorem dX0_makeEnds_1 : decode cX0_makeEnds 1 = .ok (.istore_n 3, 1) := by decide +kernel
theorem dX0_makeEnds_2 : decode cX0_makeEnds 2 = .ok (.iload_n 3, 1) := by decide +kernel
theorem dX0_makeEnds_3 : decode cX0_makeEnds 3 = .ok (.bipush 35, 2) := by decide +kernel
theorem dX0_makeEnds_5 : decode cX0_makeEnds 5 = .ok (.if_icmp .ge 37, 3) := by decide +kernel
theorem dX0_makeEnds_8 : decode cX0_makeEnds 8 = .ok (.aload_n 0, 1) := by decide +kernel
theorem dX0_makeEnds_9 : decode cX0_makeEnds 9 = .ok (.aload_n 1, 1) := by decide +kernel
theorem dX0_makeEnds_10 : decode cX0_makeEnds 10 = .ok (.iload_n 2, 1) := by decide +kernel
theorem dX0_makeEnds_11 : decode cX0_makeEnds 11 = .ok (.iload_n 3, 1) := by decide +kernel
theorem dX0_makeEnds_12 : decode cX0_makeEnds 12 = .ok (.aload_n 0, 1) := by decide +kernel
theorem dX0_makeEnds_13 : decode cX0_makeEnds 13 = .ok (.getfield 14, 3) := by decide +kernel
theorem dX0_makeEnds_16 : decode cX0_makeEnds 16 = .ok (.invokevirtual 51, 3) := by decide +kernel
theorem dX0_makeEnds_19 : decode cX0_makeEnds 19 = .ok (.aload_n 0, 1) := by decide +kernel
theorem dX0_makeEnds_20 : decode cX0_makeEnds 20 = .ok (.aload_n 1, 1) := by decide +kernel
theorem dX0_makeEnds_21 : decode cX0_makeEnds 21 = .ok (.getfield 55, 3) := by decide +kernel
theorem dX0_makeEnds_24 : decode cX0_makeEnds 24 = .ok (.iload_n 2, 1) := by decide +kernel
theorem dX0_makeEnds_25 : decode cX0_makeEnds 25 = .ok (.iload_n 3, 1) := by decide +kernel
theorem dX0_makeEnds_26 : decode cX0_makeEnds 26 = .ok (.iconst 0, 1) := by decide +kernel
theorem dX0_makeEnds_27 : decode cX0_makeEnds 27 = .ok (.bipush 15, 2) := by decide +kernel
theorem dX0_makeEnds_29 : decode cX0_makeEnds 29 = .ok (.aload_n 0, 1) := by decide +kernel
theorem dX0_makeEnds_30 : decode cX0_makeEnds 30 = .ok (.getfield 14, 3) := by decide +kernel
theorem dX0_makeEnds_33 : decode cX0_makeEnds 33 = .ok (.invokevirtual 58, 3) := by decide +kernel
theorem dX0_makeEnds_36 : decode cX0_makeEnds 36 = .ok (.iinc 3 1, 3) := by decide +kernel
theorem dX0_makeEnds_39 : decode cX0_makeEnds 39 = .ok (.goto (-37), 3) := by decide +kernel
theorem dX0_makeEnds_42 : decode cX0_makeEnds 42 = .ok (.return_, 1) := by decide +kernel
set_option maxRecDepth 20000 in
theorem ggX0_carryAllToEnds_X5_copy : GoodIn wsX0_carryAllToEnds wsX5_copy := goodIn_r _ [9, 10, 11, 12, 8, 13, 14, 15, 16, 17, 18, 58] (by decide +kernel) (by decide +kernel)
set_option maxRecDepth 20000 in
theorem gX0_carryAllToEnds_X5_copy : GoodIn wsX0_carryAllToEnds (wsV RX0 67 RX5 yX5_copy wsX5_copy) := goodIn_app (goodIn_of _ (by decide +kernel)) ggX0_carryAllToEnds_X5_copy
set_option maxRecDepth 20000 in
theorem ggX0_carryAllToEnds_X0_carry : GoodIn wsX0_carryAllToEnds wsX0_carry := goodIn_r _ [23, 24, 25, 26, 27, 28, 29, 30, 31, 32, 33, 34, 35, 36, 37, 38, 39, 40, 41, 42, 43, 44, 45, 11, 12, 8, 13, 14, 46, 47, 48, 49, 50, 51, 16, 17, 18, 52, 53, 59, 60, 58] (by decide +kernel) (by decide +kernel)
set_option maxRecDepth 20000 in
theorem gX0_carryAllToEnds_X0_carry : GoodIn wsX0_carryAllToEnds (wsV RX0 58 RX0 yX0_carry wsX0_carry) := goodIn_app (goodIn_of _ (by decide +kernel)) ggX0_carryAllToEnds_X0_carry
theorem dX0_carryAllToEnds_0 : decode cX0_carryAllToEnds 0 = .ok (.iconst 0, 1) := by decide +kernel
theorem dX0_carryAllToEnds_1 : decode cX0_carryAllToEnds 1 = .ok (.istore 5, 2) := by decide +kernel
theorem dX0_carryAllToEnds_3 : decode cX0_carryAllToEnds 3 = .ok (.iload 5, 2) := by decide +kernel
theorem dX0_carryAllToEnds_5 : decode cX0_carryAllToEnds 5 = .ok (.bipush 35, 2) := by decide +kernel
theorem dX0_carryAllToEnds_7 : decode cX0_carryAllToEnds 7 = .ok (.if_icmp .ge 49, 3) := by decide +kernel
theorem dX0_carryAllToEnds_10 : decode cX0_carryAllToEnds 10 = .ok (.aload_n 0, 1) := by decide +kernel
theorem dX0_carryAllToEnds_11 : decode cX0_carryAllToEnds 11 = .ok (.getfield 14, 3) := by decide +kernel
theorem dX0_carryAllToEnds_14 : decode cX0_carryAllToEnds 14 = .ok (.iload 5, 2) := by decide +kernel
theorem dX0_carryAllToEnds_16 : decode cX0_carryAllToEnds 16 = .ok (.aload_n 3, 1) := by decide +kernel
theorem dX0_carryAllToEnds_17 : decode cX0_carryAllToEnds 17 = .ok (.getfield 62, 3) := by decide +kernel
theorem dX0_carryAllToEnds_20 : decode cX0_carryAllToEnds 20 = .ok (.iload 5, 2) := by decide +kernel
theorem dX0_carryAllToEnds_22 : decode cX0_carryAllToEnds 22 = .ok (.invokevirtual 67, 3) := by decide +kernel
theorem dX0_carryAllToEnds_25 : decode cX0_carryAllToEnds 25 = .ok (.aload_n 0, 1) := by decide +kernel
theorem dX0_carryAllToEnds_26 : decode cX0_carryAllToEnds 26 = .ok (.lload_n 1, 1) := by decide +kernel
theorem dX0_carryAllToEnds_27 : decode cX0_carryAllToEnds 27 = .ok (.aload_n 3, 1) := by decide +kernel
theorem dX0_carryAllToEnds_28 : decode cX0_carryAllToEnds 28 = .ok (.getfield 71, 3) := by decide +kernel
theorem dX0_carryAllToEnds_31 : decode cX0_carryAllToEnds 31 = .ok (.iload 5, 2) := by decide +kernel
theorem dX0_carryAllToEnds_33 : decode cX0_carryAllToEnds 33 = .ok (.aload 4, 2) := by decide +kernel
theorem dX0_carryAllToEnds_35 : decode cX0_carryAllToEnds 35 = .ok (.getfield 75, 3) := by decide +kernel
theorem dX0_carryAllToEnds_38 : decode cX0_carryAllToEnds 38 = .ok (.iload 5, 2) := by decide +kernel
theorem dX0_carryAllToEnds_40 : decode cX0_carryAllToEnds 40 = .ok (.iaload, 1) := by decide +kernel
theorem dX0_carryAllToEnds_41 : decode cX0_carryAllToEnds 41 = .ok (.bipush 15, 2) := by decide +kernel
theorem dX0_carryAllToEnds_43 : decode cX0_carryAllToEnds 43 = .ok (.aload_n 0, 1) := by decide +kernel
theorem dX0_carryAllToEnds_44 : decode cX0_carryAllToEnds 44 = .ok (.getfield 14, 3) := by decide +kernel
theorem dX0_carryAllToEnds_47 : decode cX0_carryAllToEnds 47 = .ok (.invokevirtual 58, 3) := by decide +kernel
theorem dX0_carryAllToEnds_50 : decode cX0_carryAllToEnds 50 = .ok (.iinc 5 1, 3) := by decide +kernel
theorem dX0_carryAllToEnds_53 : decode cX0_carryAllToEnds 53 = .ok (.goto (-50), 3) := by decide +kernel
theorem dX0_carryAllToEnds_56 : decode cX0_carryAllToEnds 56 = .ok (.return_, 1) := by decide +kernel
theorem dX1_init_0 : decode cX1_init 0 = .ok (.aload_n 0, 1) := by decide +kernel
theorem dX1_init_1 : decode cX1_init 1 = .ok (.invokespecial 3, 3) := by decide +kernel
theorem dX1_init_4 : decode cX1_init 4 = .ok (.aload_n 0, 1) := by decide +kernel
theorem dX1_init_5 : decode cX1_init 5 = .ok (.bipush 35, 2) := by decide +kernel
theorem dX1_init_7 : decode cX1_init 7 = .ok (.newarray .int, 2) := by decide +kernel
theorem dX1_init_9 : decode cX1_init 9 = .ok (.putfield 9, 3) := by decide +kernel
theorem dX1_init_12 : decode cX1_init 12 = .ok (.return_, 1) := by decide +kernel
set_option maxRecDepth 20000 in
theorem ggX1_read_X1_fourBits : GoodIn wsX1_read wsX1_fourBits := goodIn_r _ [5] (by decide +kernel) (by decide +kernel)
set_option maxRecDepth 20000 in
theorem gX1_read_X1_fourBits : GoodIn wsX1_read (va_wsS RX1 15 yX1_fourBits wsX1_fourBits) := goodIn_app (goodIn_of _ (by decide +kernel)) ggX1_read_X1_fourBits
theorem dX1_read_0 : decode cX1_read 0 = .ok (.iconst 0, 1) := by decide +kernel
theorem dX1_read_1 : decode cX1_read 1 = .ok (.istore 5, 2) := by decide +kernel
theorem dX1_read_3 : decode cX1_read 3 = .ok (.iconst 0, 1) := by decide +kernel
theorem dX1_read_4 : decode cX1_read 4 = .ok (.istore 6, 2) := by decide +kernel
theorem dX1_read_6 : decode cX1_read 6 = .ok (.iload 6, 2) := by decide +kernel
theorem dX1_read_8 : decode cX1_read 8 = .ok (.bipush 32, 2) := by decide +kernel
theorem dX1_read_10 : decode cX1_read 10 = .ok (.if_icmp .ge 58, 3) := by decide +kernel
theorem dX1_read_13 : decode cX1_read 13 = .ok (.iload 6, 2) := by decide +kernel
theorem dX1_read_15 : decode cX1_read 15 = .ok (.bipush 16, 2) := by decide +kernel
theorem dX1_read_17 : decode cX1_read 17 = .ok (.if_icmp .ge 7, 3) := by decide +kernel
theorem dX1_read_20 : decode cX1_read 20 = .ok (.lload_n 1, 1) := by decide +kernel
theorem dX1_read_21 : decode cX1_read 21 = .ok (.goto 4, 3) := by decide +kernel
theorem dX1_read_24 : decode cX1_read 24 = .ok (.lload_n 3, 1) := by decide +kernel
theorem dX1_read_25 : decode cX1_read 25 = .ok (.lstore 7, 2) := by decide +kernel
theorem dX1_read_27 : decode cX1_read 27 = .ok (.aload_n 0, 1) := by decide +kernel
theorem dX1_read_28 : decode cX1_read 28 = .ok (.getfield 9, 3) := by decide +kernel
theorem dX1_read_31 : decode cX1_read 31 = .ok (.iload 6, 2) := by decide +kernel
theorem dX1_read_33 : decode cX1_read 33 = .ok (.lload 7, 2) := by decide +kernel
theorem dX1_read_35 : decode cX1_read 35 = .ok (.bipush 15, 2) := by decide +kernel
theorem dX1_read_37 : decode cX1_read 37 = .ok (.iload 6, 2) := by decide +kernel
theorem dX1_read_39 : decode cX1_read 39 = .ok (.bipush 16, 2) := by decide +kernel
theorem dX1_read_41 : decode cX1_read 41 = .ok (.irem, 1) := by decide +kernel
theorem dX1_read_42 : decode cX1_read 42 = .ok (.isub, 1) := by decide +kernel
theorem dX1_read_43 : decode cX1_read 43 = .ok (.invokestatic 15, 3) := by decide +kernel
theorem dX1_read_46 : decode cX1_read 46 = .ok (.iastore, 1) := by decide +kernel
theorem dX1_read_47 : decode cX1_read 47 = .ok (.iload 5, 2) := by decide +kernel
theorem dX1_read_49 : decode cX1_read 49 = .ok (.bipush 15, 2) := by decide +kernel
theorem dX1_read_51 : decode cX1_read 51 = .ok (.aload_n 0, 1) := by decide +kernel
theorem dX1_read_52 : decode cX1_read 52 = .ok (.getfield 9, 3) := by decide +kernel
theorem dX1_read_55 : decode cX1_read 55 = .ok (.iload 6, 2) := by decide +kernel
theorem dX1_read_57 : decode cX1_read 57 = .ok (.iaload, 1) := by decide +kernel
theorem dX1_read_58 : decode cX1_read 58 = .ok (.isub, 1) := by decide +kernel
theorem dX1_read_59 : decode cX1_read 59 = .ok (.iadd, 1) := by decide +kernel
theorem dX1_read_60 : decode cX1_read 60 = .ok (.istore 5, 2) := by decide +kernel
theorem dX1_read_62 : decode cX1_read 62 = .ok (.iinc 6 1, 3) := by decide +kernel
theorem dX1_read_65 : decode cX1_read 65 = .ok (.goto (-59), 3) := by decide +kernel
theorem dX1_read_68 : decode cX1_read 68 = .ok (.bipush 32, 2) := by decide +kernel
theorem dX1_read_70 : decode cX1_read 70 = .ok (.istore 6, 2) := by decide +kernel
theorem dX1_read_72 : decode cX1_read 72 = .ok (.iload 6, 2) := by decide +kernel
theorem dX1_read_74 : decode cX1_read 74 = .ok (.bipush 35, 2) := by decide +kernel
theorem dX1_read_76 : decode cX1_read 76 = .ok (.if_icmp .ge 27, 3) := by decide +kernel
theorem dX1_read_79 : decode cX1_read 79 = .ok (.aload_n 0, 1) := by decide +kernel
theorem dX1_read_80 : decode cX1_read 80 = .ok (.getfield 9, 3) := by decide +kernel
theorem dX1_read_83 : decode cX1_read 83 = .ok (.iload 6, 2) := by decide +kernel
theorem dX1_read_85 : decode cX1_read 85 = .ok (.iload 5, 2) := by decide +kernel
theorem dX1_read_87 : decode cX1_read 87 = .ok (.i2l, 1) := by decide +kernel
theorem dX1_read_88 : decode cX1_read 88 = .ok (.bipush 34, 2) := by decide +kernel
theorem dX1_read_90 : decode cX1_read 90 = .ok (.iload 6, 2) := by decide +kernel
theorem dX1_read_92 : decode cX1_read 92 = .ok (.isub, 1) := by decide +kernel
theorem dX1_read_93 : decode cX1_read 93 = .ok (.invokestatic 15, 3) := by decide +kernel
theorem dX1_read_96 : decode cX1_read 96 = .ok (.iastore, 1) := by decide +kernel
theorem dX1_read_97 : decode cX1_read 97 = .ok (.iinc 6 1, 3) := by decide +kernel
theorem dX1_read_100 : decode cX1_read 100 = .ok (.goto (-28), 3) := by decide +kernel
theorem dX1_read_103 : decode cX1_read 103 = .ok (.return_, 1) := by decide +kernel
theorem dX1_fourBits_0 : decode cX1_fourBits 0 = .ok (.lload_n 0, 1) := by decide +kernel
theorem dX1_fourBits_1 : decode cX1_fourBits 1 = .ok (.iconst 4, 1) := by decide +kernel
theorem dX1_fourBits_2 : decode cX1_fourBits 2 = .ok (.iload_n 2, 1) := by decide +kernel
theorem dX1_fourBits_3 : decode cX1_fourBits 3 = .ok (.imul, 1) := by decide +kernel
theorem dX1_fourBits_4 : decode cX1_fourBits 4 = .ok (.lushr, 1) := by decide +kernel
theorem dX1_fourBits_5 : decode cX1_fourBits 5 = .ok (.l2i, 1) := by decide +kernel
theorem dX1_fourBits_6 : decode cX1_fourBits 6 = .ok (.bipush 15, 2) := by decide +kernel
theorem dX1_fourBits_8 : decode cX1_fourBits 8 = .ok (.iand, 1) := by decide +kernel
theorem dX1_fourBits_9 : decode cX1_fourBits 9 = .ok (.ireturn, 1) := by decide +kernel
theorem dX2_init_0 : decode cX2_init 0 = .ok (.aload_n 0, 1) := by decide +kernel
theorem dX2_init_1 : decode cX2_init 1 = .ok (.invokespecial 3, 3) := by decide +kernel
theorem dX2_init_4 : decode cX2_init 4 = .ok (.return_, 1) := by decide +kernel
theorem dX2_start_0 : decode cX2_start 0 = .ok (.aload_n 0, 1) := by decide +kernel
theorem dX2_start_1 : decode cX2_start 1 = .ok (.iload_n 1, 1) := by decide +kernel
theorem dX2_start_2 : decode cX2_start 2 = .ok (.i2l, 1) := by decide +kernel
theorem dX2_start_3 : decode cX2_start 3 = .ok (.putfield 9, 3) := by decide +kernel
theorem dX2_start_6 : decode cX2_start 6 = .ok (.aload_n 0, 1) := by decide +kernel
theorem dX2_start_7 : decode cX2_start 7 = .ok (.iload_n 2, 1) := by decide +kernel
theorem dX2_start_8 : decode cX2_start 8 = .ok (.i2l, 1) := by decide +kernel
theorem dX2_start_9 : decode cX2_start 9 = .ok (.putfield 15, 3) := by decide +kernel
theorem dX2_start_12 : decode cX2_start 12 = .ok (.return_, 1) := by decide +kernel
set_option maxRecDepth 20000 in
theorem ggX2_add_X2_mixed : GoodIn wsX2_add wsX2_mixed := goodIn_r _ [6, 7, 8] (by decide +kernel) (by decide +kernel)
set_option maxRecDepth 20000 in
theorem gX2_add_X2_mixed : GoodIn wsX2_add (va_wsS RX2 18 yX2_mixed wsX2_mixed) := goodIn_app (goodIn_of _ (by decide +kernel)) ggX2_add_X2_mixed
theorem dX2_add_0 : decode cX2_add 0 = .ok (.aload_n 0, 1) := by decide +kernel
theorem dX2_add_1 : decode cX2_add 1 = .ok (.aload_n 0, 1) := by decide +kernel
theorem dX2_add_2 : decode cX2_add 2 = .ok (.getfield 9, 3) := by decide +kernel
theorem dX2_add_5 : decode cX2_add 5 = .ok (.lload_n 1, 1) := by decide +kernel
theorem dX2_add_6 : decode cX2_add 6 = .ok (.lxor, 1) := by decide +kernel
theorem dX2_add_7 : decode cX2_add 7 = .ok (.invokestatic 18, 3) := by decide +kernel
theorem dX2_add_10 : decode cX2_add 10 = .ok (.putfield 9, 3) := by decide +kernel
theorem dX2_add_13 : decode cX2_add 13 = .ok (.aload_n 0, 1) := by decide +kernel
theorem dX2_add_14 : decode cX2_add 14 = .ok (.aload_n 0, 1) := by decide +kernel
theorem dX2_add_15 : decode cX2_add 15 = .ok (.getfield 15, 3) := by decide +kernel
theorem dX2_add_18 : decode cX2_add 18 = .ok (.aload_n 0, 1) := by decide +kernel
theorem dX2_add_19 : decode cX2_add 19 = .ok (.getfield 9, 3) := by decide +kernel
theorem dX2_add_22 : decode cX2_add 22 = .ok (.ladd, 1) := by decide +kernel
theorem dX2_add_23 : decode cX2_add 23 = .ok (.invokestatic 18, 3) := by decide +kernel
theorem dX2_add_26 : decode cX2_add 26 = .ok (.putfield 15, 3) := by decide +kernel
theorem dX2_add_29 : decode cX2_add 29 = .ok (.return_, 1) := by decide +kernel
set_option maxRecDepth 20000 in
theorem ggX2_addPair_X5_at : GoodIn wsX2_addPair wsX5_at := goodIn_r _ [5, 6, 19] (by decide +kernel) (by decide +kernel)
set_option maxRecDepth 20000 in
theorem gX2_addPair_X5_at : GoodIn wsX2_addPair (wsV RX2 22 RX5 yX5_at wsX5_at) := goodIn_app (goodIn_of _ (by decide +kernel)) ggX2_addPair_X5_at
set_option maxRecDepth 20000 in
theorem ggX2_addPair_X2_add : GoodIn wsX2_addPair wsX2_add := goodIn_r _ [11, 12, 13, 14, 15, 10, 16, 17, 18, 20, 21] (by decide +kernel) (by decide +kernel)
set_option maxRecDepth 20000 in
theorem gX2_addPair_X2_add : GoodIn wsX2_addPair (wsV RX2 28 RX2 yX2_add wsX2_add) := goodIn_app (goodIn_of _ (by decide +kernel)) ggX2_addPair_X2_add
theorem dX2_addPair_0 : decode cX2_addPair 0 = .ok (.aload_n 0, 1) := by decide +kernel
theorem dX2_addPair_1 : decode cX2_addPair 1 = .ok (.aload_n 1, 1) := by decide +kernel
theorem dX2_addPair_2 : decode cX2_addPair 2 = .ok (.iload_n 2, 1) := by decide +kernel
theorem dX2_addPair_3 : decode cX2_addPair 3 = .ok (.iconst 0, 1) := by decide +kernel
theorem dX2_addPair_4 : decode cX2_addPair 4 = .ok (.invokevirtual 22, 3) := by decide +kernel
theorem dX2_addPair_7 : decode cX2_addPair 7 = .ok (.invokevirtual 28, 3) := by decide +kernel
theorem dX2_addPair_10 : decode cX2_addPair 10 = .ok (.aload_n 0, 1) := by decide +kernel
theorem dX2_addPair_11 : decode cX2_addPair 11 = .ok (.aload_n 1, 1) := by decide +kernel
theorem dX2_addPair_12 : decode cX2_addPair 12 = .ok (.iload_n 2, 1) := by decide +kernel
theorem dX2_addPair_13 : decode cX2_addPair 13 = .ok (.iconst 1, 1) := by decide +kernel
theorem dX2_addPair_14 : decode cX2_addPair 14 = .ok (.invokevirtual 22, 3) := by decide +kernel
theorem dX2_addPair_17 : decode cX2_addPair 17 = .ok (.invokevirtual 28, 3) := by decide +kernel
theorem dX2_addPair_20 : decode cX2_addPair 20 = .ok (.return_, 1) := by decide +kernel
set_option maxRecDepth 20000 in
theorem ggX2_addMessage_X2_add : GoodIn wsX2_addMessage wsX2_add := goodIn_r _ [7, 8, 9, 10, 11, 6, 12, 13, 14, 17, 18] (by decide +kernel) (by decide +kernel)
set_option maxRecDepth 20000 in
theorem gX2_addMessage_X2_add : GoodIn wsX2_addMessage (wsV RX2 28 RX2 yX2_add wsX2_add) := goodIn_app (goodIn_of _ (by decide +kernel)) ggX2_addMessage_X2_add
theorem dX2_addMessage_0 : decode cX2_addMessage 0 = .ok (.iconst 0, 1) := by decide +kernel
theorem dX2_addMessage_1 : decode cX2_addMessage 1 = .ok (.istore_n 2, 1) := by decide +kernel
theorem dX2_addMessage_2 : decode cX2_addMessage 2 = .ok (.iload_n 2, 1) := by decide +kernel
theorem dX2_addMessage_3 : decode cX2_addMessage 3 = .ok (.aload_n 1, 1) := by decide +kernel
theorem dX2_addMessage_4 : decode cX2_addMessage 4 = .ok (.getfield 32, 3) := by decide +kernel
theorem dX2_addMessage_7 : decode cX2_addMessage 7 = .ok (.if_icmp .ge 19, 3) := by decide +kernel
theorem dX2_addMessage_10 : decode cX2_addMessage 10 = .ok (.aload_n 0, 1) := by decide +kernel
theorem dX2_addMessage_11 : decode cX2_addMessage 11 = .ok (.aload_n 1, 1) := by decide +kernel
theorem dX2_addMessage_12 : decode cX2_addMessage 12 = .ok (.getfield 38, 3) := by decide +kernel
theorem dX2_addMessage_15 : decode cX2_addMessage 15 = .ok (.iload_n 2, 1) := by decide +kernel
theorem dX2_addMessage_16 : decode cX2_addMessage 16 = .ok (.laload, 1) := by decide +kernel
theorem dX2_addMessage_17 : decode cX2_addMessage 17 = .ok (.invokevirtual 28, 3) := by decide +kernel
theorem dX2_addMessage_20 : decode cX2_addMessage 20 = .ok (.iinc 2 1, 3) := by decide +kernel
theorem dX2_addMessage_23 : decode cX2_addMessage 23 = .ok (.goto (-21), 3) := by decide +kernel
theorem dX2_addMessage_26 : decode cX2_addMessage 26 = .ok (.return_, 1) := by decide +kernel
set_option maxRecDepth 20000 in
theorem ggX2_hashLeaf_X2_start : GoodIn wsX2_hashLeaf wsX2_start := goodIn_r _ [5, 6, 7, 27, 28] (by decide +kernel) (by decide +kernel)
set_option maxRecDepth 20000 in
theorem gX2_hashLeaf_X2_start : GoodIn wsX2_hashLeaf (wsV RX2 42 RX2 yX2_start wsX2_start) := goodIn_app (goodIn_of _ (by decide +kernel)) ggX2_hashLeaf_X2_start
set_option maxRecDepth 20000 in
theorem ggX2_hashLeaf_X2_add : GoodIn wsX2_hashLeaf wsX2_add := goodIn_r _ [11, 6, 7, 12, 13, 4, 14, 15, 16, 27, 28] (by decide +kernel) (by decide +kernel)
set_option maxRecDepth 20000 in
theorem gX2_hashLeaf_X2_add : GoodIn wsX2_hashLeaf (wsV RX2 28 RX2 yX2_add wsX2_add) := goodIn_app (goodIn_of _ (by decide +kernel)) ggX2_hashLeaf_X2_add
set_option maxRecDepth 20000 in
theorem ggX2_hashLeaf_X2_addPair : GoodIn wsX2_hashLeaf wsX2_addPair := goodIn_r _ [20, 21, 22, 23, 24, 25, 26, 8, 9, 10, 4, 11, 6, 7, 12, 13, 14, 15, 16, 29, 27, 28] (by decide +kernel) (by decide +kernel)
set_option maxRecDepth 20000 in
theorem gX2_hashLeaf_X2_addPair : GoodIn wsX2_hashLeaf (wsV RX2 46 RX2 yX2_addPair wsX2_addPair) := goodIn_app (goodIn_of _ (by decide +kernel)) ggX2_hashLeaf_X2_addPair
theorem dX2_hashLeaf_0 : decode cX2_hashLeaf 0 = .ok (.aload_n 0, 1) := by decide +kernel
theorem dX2_hashLeaf_1 : decode cX2_hashLeaf 1 = .ok (.iconst 3, 1) := by decide +kernel
theorem dX2_hashLeaf_2 : decode cX2_hashLeaf 2 = .ok (.bipush 72, 2) := by decide +kernel
theorem dX2_hashLeaf_4 : decode cX2_hashLeaf 4 = .ok (.invokevirtual 42, 3) := by decide +kernel
theorem dX2_hashLeaf_7 : decode cX2_hashLeaf 7 = .ok (.aload_n 0, 1) := by decide +kernel
theorem dX2_hashLeaf_8 : decode cX2_hashLeaf 8 = .ok (.lload_n 1, 1) := by decide +kernel
theorem dX2_hashLeaf_9 : decode cX2_hashLeaf 9 = .ok (.invokevirtual 28, 3) := by decide +kernel
theorem dX2_hashLeaf_12 : decode cX2_hashLeaf 12 = .ok (.aload_n 0, 1) := by decide +kernel
theorem dX2_hashLeaf_13 : decode cX2_hashLeaf 13 = .ok (.iload_n 3, 1) := by decide +kernel
theorem dX2_hashLeaf_14 : decode cX2_hashLeaf 14 = .ok (.i2l, 1) := by decide +kernel
theorem dX2_hashLeaf_15 : decode cX2_hashLeaf 15 = .ok (.invokevirtual 28, 3) := by decide +kernel
theorem dX2_hashLeaf_18 : decode cX2_hashLeaf 18 = .ok (.iconst 0, 1) := by decide +kernel
theorem dX2_hashLeaf_19 : decode cX2_hashLeaf 19 = .ok (.istore 5, 2) := by decide +kernel
theorem dX2_hashLeaf_21 : decode cX2_hashLeaf 21 = .ok (.iload 5, 2) := by decide +kernel
theorem dX2_hashLeaf_23 : decode cX2_hashLeaf 23 = .ok (.bipush 35, 2) := by decide +kernel
theorem dX2_hashLeaf_25 : decode cX2_hashLeaf 25 = .ok (.if_icmp .ge 17, 3) := by decide +kernel
theorem dX2_hashLeaf_28 : decode cX2_hashLeaf 28 = .ok (.aload_n 0, 1) := by decide +kernel
theorem dX2_hashLeaf_29 : decode cX2_hashLeaf 29 = .ok (.aload 4, 2) := by decide +kernel
theorem dX2_hashLeaf_31 : decode cX2_hashLeaf 31 = .ok (.iload 5, 2) := by decide +kernel
theorem dX2_hashLeaf_33 : decode cX2_hashLeaf 33 = .ok (.invokevirtual 46, 3) := by decide +kernel
theorem dX2_hashLeaf_36 : decode cX2_hashLeaf 36 = .ok (.iinc 5 1, 3) := by decide +kernel
theorem dX2_hashLeaf_39 : decode cX2_hashLeaf 39 = .ok (.goto (-18), 3) := by decide +kernel
theorem dX2_hashLeaf_42 : decode cX2_hashLeaf 42 = .ok (.return_, 1) := by decide +kernel
set_option maxRecDepth 20000 in
theorem ggX2_startNode_X2_start : GoodIn wsX2_startNode wsX2_start := goodIn_r _ [5, 6, 7, 17, 18] (by decide +kernel) (by decide +kernel)
set_option maxRecDepth 20000 in
theorem gX2_startNode_X2_start : GoodIn wsX2_startNode (wsV RX2 42 RX2 yX2_start wsX2_start) := goodIn_app (goodIn_of _ (by decide +kernel)) ggX2_startNode_X2_start
set_option maxRecDepth 20000 in
theorem ggX2_startNode_X2_add : GoodIn wsX2_startNode wsX2_add := goodIn_r _ [11, 6, 7, 12, 13, 4, 14, 15, 16, 17, 18] (by decide +kernel) (by decide +kernel)
set_option maxRecDepth 20000 in
theorem gX2_startNode_X2_add : GoodIn wsX2_startNode (wsV RX2 28 RX2 yX2_add wsX2_add) := goodIn_app (goodIn_of _ (by decide +kernel)) ggX2_startNode_X2_add
theorem dX2_startNode_0 : decode cX2_startNode 0 = .ok (.aload_n 0, 1) := by decide +kernel
theorem dX2_startNode_1 : decode cX2_startNode 1 = .ok (.iconst 4, 1) := by decide +kernel
theorem dX2_startNode_2 : decode cX2_startNode 2 = .ok (.bipush 7, 2) := by decide +kernel
theorem dX2_startNode_4 : decode cX2_startNode 4 = .ok (.invokevirtual 42, 3) := by decide +kernel
theorem dX2_startNode_7 : decode cX2_startNode 7 = .ok (.aload_n 0, 1) := by decide +kernel
theorem dX2_startNode_8 : decode cX2_startNode 8 = .ok (.lload_n 1, 1) := by decide +kernel
theorem dX2_startNode_9 : decode cX2_startNode 9 = .ok (.invokevirtual 28, 3) := by decide +kernel
theorem dX2_startNode_12 : decode cX2_startNode 12 = .ok (.aload_n 0, 1) := by decide +kernel
theorem dX2_startNode_13 : decode cX2_startNode 13 = .ok (.iload_n 3, 1) := by decide +kernel
theorem dX2_startNode_14 : decode cX2_startNode 14 = .ok (.i2l, 1) := by decide +kernel
theorem dX2_startNode_15 : decode cX2_startNode 15 = .ok (.invokevirtual 28, 3) := by decide +kernel
theorem dX2_startNode_18 : decode cX2_startNode 18 = .ok (.aload_n 0, 1) := by decide +kernel
theorem dX2_startNode_19 : decode cX2_startNode 19 = .ok (.iload 4, 2) := by decide +kernel
theorem dX2_startNode_21 : decode cX2_startNode 21 = .ok (.i2l, 1) := by decide +kernel
theorem dX2_startNode_22 : decode cX2_startNode 22 = .ok (.invokevirtual 28, 3) := by decide +kernel
theorem dX2_startNode_25 : decode cX2_startNode 25 = .ok (.return_, 1) := by decide +kernel
set_option maxRecDepth 20000 in
theorem ggX2_giveTo_X5_put : GoodIn wsX2_giveTo wsX5_put := goodIn_r _ [7, 8, 11] (by decide +kernel) (by decide +kernel)
set_option maxRecDepth 20000 in
theorem gX2_giveTo_X5_put : GoodIn wsX2_giveTo (wsV RX2 50 RX5 yX5_put wsX5_put) := goodIn_app (goodIn_of _ (by decide +kernel)) ggX2_giveTo_X5_put
theorem dX2_giveTo_0 : decode cX2_giveTo 0 = .ok (.aload_n 1, 1) := by decide +kernel
theorem dX2_giveTo_1 : decode cX2_giveTo 1 = .ok (.iload_n 2, 1) := by decide +kernel
theorem dX2_giveTo_2 : decode cX2_giveTo 2 = .ok (.iconst 0, 1) := by decide +kernel
theorem dX2_giveTo_3 : decode cX2_giveTo 3 = .ok (.aload_n 0, 1) := by decide +kernel
theorem dX2_giveTo_4 : decode cX2_giveTo 4 = .ok (.getfield 9, 3) := by decide +kernel
theorem dX2_giveTo_7 : decode cX2_giveTo 7 = .ok (.invokevirtual 50, 3) := by decide +kernel
theorem dX2_giveTo_10 : decode cX2_giveTo 10 = .ok (.aload_n 1, 1) := by decide +kernel
theorem dX2_giveTo_11 : decode cX2_giveTo 11 = .ok (.iload_n 2, 1) := by decide +kernel
theorem dX2_giveTo_12 : decode cX2_giveTo 12 = .ok (.iconst 1, 1) := by decide +kernel
theorem dX2_giveTo_13 : decode cX2_giveTo 13 = .ok (.aload_n 0, 1) := by decide +kernel
theorem dX2_giveTo_14 : decode cX2_giveTo 14 = .ok (.getfield 15, 3) := by decide +kernel
theorem dX2_giveTo_17 : decode cX2_giveTo 17 = .ok (.invokevirtual 50, 3) := by decide +kernel
theorem dX2_giveTo_20 : decode cX2_giveTo 20 = .ok (.return_, 1) := by decide +kernel
set_option maxRecDepth 20000 in
theorem ggX2_gave_X5_at : GoodIn wsX2_gave wsX5_at := goodIn_r _ [7, 8, 11] (by decide +kernel) (by decide +kernel)
set_option maxRecDepth 20000 in
theorem gX2_gave_X5_at : GoodIn wsX2_gave (wsV RX2 22 RX5 yX5_at wsX5_at) := goodIn_app (goodIn_of _ (by decide +kernel)) ggX2_gave_X5_at
theorem dX2_gave_0 : decode cX2_gave 0 = .ok (.aload_n 1, 1) := by decide +kernel
theorem dX2_gave_1 : decode cX2_gave 1 = .ok (.iload_n 2, 1) := by decide +kernel
theorem dX2_gave_2 : decode cX2_gave 2 = .ok (.iconst 0, 1) := by decide +kernel
theorem dX2_gave_3 : decode cX2_gave 3 = .ok (.invokevirtual 22, 3) := by decide +kernel
theorem dX2_gave_6 : decode cX2_gave 6 = .ok (.aload_n 0, 1) := by decide +kernel
theorem dX2_gave_7 : decode cX2_gave 7 = .ok (.getfield 9, 3) := by decide +kernel
theorem dX2_gave_10 : decode cX2_gave 10 = .ok (.lcmp, 1) := by decide +kernel
theorem dX2_gave_11 : decode cX2_gave 11 = .ok (.ifCond .ne 21, 3) := by decide +kernel
theorem dX2_gave_14 : decode cX2_gave 14 = .ok (.aload_n 1, 1) := by decide +kernel
theorem dX2_gave_15 : decode cX2_gave 15 = .ok (.iload_n 2, 1) := by decide +kernel
theorem dX2_gave_16 : decode cX2_gave 16 = .ok (.iconst 1, 1) := by decide +kernel
theorem dX2_gave_17 : decode cX2_gave 17 = .ok (.invokevirtual 22, 3) := by decide +kernel
theorem dX2_gave_20 : decode cX2_gave 20 = .ok (.aload_n 0, 1) := by decide +kernel
theorem dX2_gave_21 : decode cX2_gave 21 = .ok (.getfield 15, 3) := by decide +kernel
theorem dX2_gave_24 : decode cX2_gave 24 = .ok (.lcmp, 1) := by decide +kernel
theorem dX2_gave_25 : decode cX2_gave 25 = .ok (.ifCond .ne 7, 3) := by decide +kernel
theorem dX2_gave_28 : decode cX2_gave 28 = .ok (.iconst 1, 1) := by decide +kernel
theorem dX2_gave_29 : decode cX2_gave 29 = .ok (.goto 4, 3) := by decide +kernel
theorem dX2_gave_32 : decode cX2_gave 32 = .ok (.iconst 0, 1) := by decide +kernel
theorem dX2_gave_33 : decode cX2_gave 33 = .ok (.ireturn, 1) := by decide +kernel
theorem dX2_mixed_0 : decode cX2_mixed 0 = .ok (.lload_n 0, 1) := by decide +kernel
theorem dX2_mixed_1 : decode cX2_mixed 1 = .ok (.lload_n 0, 1) := by decide +kernel
theorem dX2_mixed_2 : decode cX2_mixed 2 = .ok (.bipush 30, 2) := by decide +kernel
theorem dX2_mixed_4 : decode cX2_mixed 4 = .ok (.lushr, 1) := by decide +kernel
theorem dX2_mixed_5 : decode cX2_mixed 5 = .ok (.lxor, 1) := by decide +kernel
theorem dX2_mixed_6 : decode cX2_mixed 6 = .ok (.ldc2_w 54, 3) := by decide +kernel
theorem dX2_mixed_9 : decode cX2_mixed 9 = .ok (.lmul, 1) := by decide +kernel
theorem dX2_mixed_10 : decode cX2_mixed 10 = .ok (.lstore_n 2, 1) := by decide +kernel
theorem dX2_mixed_11 : decode cX2_mixed 11 = .ok (.lload_n 2, 1) := by decide +kernel
theorem dX2_mixed_12 : decode cX2_mixed 12 = .ok (.lload_n 2, 1) := by decide +kernel
theorem dX2_mixed_13 : decode cX2_mixed 13 = .ok (.bipush 27, 2) := by decide +kernel
theorem dX2_mixed_15 : decode cX2_mixed 15 = .ok (.lushr, 1) := by decide +kernel
theorem dX2_mixed_16 : decode cX2_mixed 16 = .ok (.lxor, 1) := by decide +kernel
theorem dX2_mixed_17 : decode cX2_mixed 17 = .ok (.ldc2_w 56, 3) := by decide +kernel
theorem dX2_mixed_20 : decode cX2_mixed 20 = .ok (.lmul, 1) := by decide +kernel
theorem dX2_mixed_21 : decode cX2_mixed 21 = .ok (.lstore 4, 2) := by decide +kernel
theorem dX2_mixed_23 : decode cX2_mixed 23 = .ok (.lload 4, 2) := by decide +kernel
theorem dX2_mixed_25 : decode cX2_mixed 25 = .ok (.lload 4, 2) := by decide +kernel
theorem dX2_mixed_27 : decode cX2_mixed 27 = .ok (.bipush 31, 2) := by decide +kernel
theorem dX2_mixed_29 : decode cX2_mixed 29 = .ok (.lushr, 1) := by decide +kernel
theorem dX2_mixed_30 : decode cX2_mixed 30 = .ok (.lxor, 1) := by decide +kernel
theorem dX2_mixed_31 : decode cX2_mixed 31 = .ok (.lreturn, 1) := by decide +kernel
theorem dX3_init_0 : decode cX3_init 0 = .ok (.aload_n 0, 1) := by decide +kernel
theorem dX3_init_1 : decode cX3_init 1 = .ok (.invokespecial 3, 3) := by decide +kernel
theorem dX3_init_4 : decode cX3_init 4 = .ok (.aload_n 0, 1) := by decide +kernel
theorem dX3_init_5 : decode cX3_init 5 = .ok (.iconst 1, 1) := by decide +kernel
theorem dX3_init_6 : decode cX3_init 6 = .ok (.putfield 9, 3) := by decide +kernel
theorem dX3_init_9 : decode cX3_init 9 = .ok (.return_, 1) := by decide +kernel
theorem dX3_renew_0 : decode cX3_renew 0 = .ok (.aload_n 0, 1) := by decide +kernel
theorem dX3_renew_1 : decode cX3_renew 1 = .ok (.lload_n 1, 1) := by decide +kernel
theorem dX3_renew_2 : decode cX3_renew 2 = .ok (.putfield 15, 3) := by decide +kernel
theorem dX3_renew_5 : decode cX3_renew 5 = .ok (.aload_n 0, 1) := by decide +kernel
theorem dX3_renew_6 : decode cX3_renew 6 = .ok (.lload_n 3, 1) := by decide +kernel
theorem dX3_renew_7 : decode cX3_renew 7 = .ok (.putfield 19, 3) := by decide +kernel
theorem dX3_renew_10 : decode cX3_renew 10 = .ok (.aload_n 0, 1) := by decide +kernel
theorem dX3_renew_11 : decode cX3_renew 11 = .ok (.lload 5, 2) := by decide +kernel
theorem dX3_renew_13 : decode cX3_renew 13 = .ok (.putfield 22, 3) := by decide +kernel
theorem dX3_renew_16 : decode cX3_renew 16 = .ok (.aload_n 0, 1) := by decide +kernel
theorem dX3_renew_17 : decode cX3_renew 17 = .ok (.iload 7, 2) := by decide +kernel
theorem dX3_renew_19 : decode cX3_renew 19 = .ok (.putfield 9, 3) := by decide +kernel
theorem dX3_renew_22 : decode cX3_renew 22 = .ok (.return_, 1) := by decide +kernel
theorem dX3_leaves_0 : decode cX3_leaves 0 = .ok (.iconst 1, 1) := by decide +kernel
theorem dX3_leaves_1 : decode cX3_leaves 1 = .ok (.aload_n 0, 1) := by decide +kernel
theorem dX3_leaves_2 : decode cX3_leaves 2 = .ok (.getfield 9, 3) := by decide +kernel
theorem dX3_leaves_5 : decode cX3_leaves 5 = .ok (.ishl, 1) := by decide +kernel
theorem dX3_leaves_6 : decode cX3_leaves 6 = .ok (.ireturn, 1) := by decide +kernel
set_option maxRecDepth 20000 in
theorem ggX3_hasLeaf_X3_leaves : GoodIn wsX3_hasLeaf wsX3_leaves := goodIn_r _ [5, 6, 7, 8, 9, 10] (by decide +kernel) (by decide +kernel)
set_option maxRecDepth 20000 in
theorem gX3_hasLeaf_X3_leaves : GoodIn wsX3_hasLeaf (wsV RX3 25 RX3 yX3_leaves wsX3_leaves) := goodIn_app (goodIn_of _ (by decide +kernel)) ggX3_hasLeaf_X3_leaves
theorem dX3_hasLeaf_0 : decode cX3_hasLeaf 0 = .ok (.iload_n 1, 1) := by decide +kernel
theorem dX3_hasLeaf_1 : decode cX3_hasLeaf 1 = .ok (.ifCond .lt 15, 3) := by decide +kernel
theorem dX3_hasLeaf_4 : decode cX3_hasLeaf 4 = .ok (.iload_n 1, 1) := by decide +kernel
theorem dX3_hasLeaf_5 : decode cX3_hasLeaf 5 = .ok (.aload_n 0, 1) := by decide +kernel
theorem dX3_hasLeaf_6 : decode cX3_hasLeaf 6 = .ok (.invokevirtual 25, 3) := by decide +kernel
theorem dX3_hasLeaf_9 : decode cX3_hasLeaf 9 = .ok (.if_icmp .ge 7, 3) := by decide +kernel
theorem dX3_hasLeaf_12 : decode cX3_hasLeaf 12 = .ok (.iconst 1, 1) := by decide +kernel
theorem dX3_hasLeaf_13 : decode cX3_hasLeaf 13 = .ok (.goto 4, 3) := by decide +kernel
theorem dX3_hasLeaf_16 : decode cX3_hasLeaf 16 = .ok (.iconst 0, 1) := by decide +kernel
theorem dX3_hasLeaf_17 : decode cX3_hasLeaf 17 = .ok (.ireturn, 1) := by decide +kernel
theorem dX4_init_0 : decode cX4_init 0 = .ok (.aload_n 0, 1) := by decide +kernel
theorem dX4_init_1 : decode cX4_init 1 = .ok (.invokespecial 1, 3) := by decide +kernel
theorem dX4_init_4 : decode cX4_init 4 = .ok (.aload_n 0, 1) := by decide +kernel
theorem dX4_init_5 : decode cX4_init 5 = .ok (.bipush 20, 2) := by decide +kernel
theorem dX4_init_7 : decode cX4_init 7 = .ok (.newarray .long, 2) := by decide +kernel
theorem dX4_init_9 : decode cX4_init 9 = .ok (.putfield 9, 3) := by decide +kernel
theorem dX4_init_12 : decode cX4_init 12 = .ok (.aload_n 0, 1) := by decide +kernel
theorem dX4_init_13 : decode cX4_init 13 = .ok (.iconst 0, 1) := by decide +kernel
theorem dX4_init_14 : decode cX4_init 14 = .ok (.putfield 13, 3) := by decide +kernel
theorem dX4_init_17 : decode cX4_init 17 = .ok (.return_, 1) := by decide +kernel
theorem dX4_isFull_0 : decode cX4_isFull 0 = .ok (.aload_n 0, 1) := by decide +kernel
theorem dX4_isFull_1 : decode cX4_isFull 1 = .ok (.getfield 13, 3) := by decide +kernel
theorem dX4_isFull_4 : decode cX4_isFull 4 = .ok (.bipush 20, 2) := by decide +kernel
theorem dX4_isFull_6 : decode cX4_isFull 6 = .ok (.if_icmp .lt 7, 3) := by decide +kernel
theorem dX4_isFull_9 : decode cX4_isFull 9 = .ok (.iconst 1, 1) := by decide +kernel
theorem dX4_isFull_10 : decode cX4_isFull 10 = .ok (.goto 4, 3) := by decide +kernel
theorem dX4_isFull_13 : decode cX4_isFull 13 = .ok (.iconst 0, 1) := by decide +kernel
theorem dX4_isFull_14 : decode cX4_isFull 14 = .ok (.ireturn, 1) := by decide +kernel
theorem dX4_append_0 : decode cX4_append 0 = .ok (.aload_n 0, 1) := by decide +kernel
theorem dX4_append_1 : decode cX4_append 1 = .ok (.getfield 9, 3) := by decide +kernel
theorem dX4_append_4 : decode cX4_append 4 = .ok (.aload_n 0, 1) := by decide +kernel
theorem dX4_append_5 : decode cX4_append 5 = .ok (.getfield 13, 3) := by decide +kernel
theorem dX4_append_8 : decode cX4_append 8 = .ok (.lload_n 1, 1) := by decide +kernel
theorem dX4_append_9 : decode cX4_append 9 = .ok (.lastore, 1) := by decide +kernel
theorem dX4_append_10 : decode cX4_append 10 = .ok (.aload_n 0, 1) := by decide +kernel
theorem dX4_append_11 : decode cX4_append 11 = .ok (.dup, 1) := by decide +kernel
theorem dX4_append_12 : decode cX4_append 12 = .ok (.getfield 13, 3) := by decide +kernel
theorem dX4_append_15 : decode cX4_append 15 = .ok (.iconst 1, 1) := by decide +kernel
theorem dX4_append_16 : decode cX4_append 16 = .ok (.iadd, 1) := by decide +kernel
theorem dX4_append_17 : decode cX4_append 17 = .ok (.putfield 13, 3) := by decide +kernel
theorem dX4_append_20 : decode cX4_append 20 = .ok (.return_, 1) := by decide +kernel
theorem dX4_clear_0 : decode cX4_clear 0 = .ok (.aload_n 0, 1) := by decide +kernel
theorem dX4_clear_1 : decode cX4_clear 1 = .ok (.iconst 0, 1) := by decide +kernel
theorem dX4_clear_2 : decode cX4_clear 2 = .ok (.putfield 13, 3) := by decide +kernel
theorem dX4_clear_5 : decode cX4_clear 5 = .ok (.return_, 1) := by decide +kernel
theorem dX5_init_0 : decode cX5_init 0 = .ok (.aload_n 0, 1) := by decide +kernel
theorem dX5_init_1 : decode cX5_init 1 = .ok (.invokespecial 1, 3) := by decide +kernel
theorem dX5_init_4 : decode cX5_init 4 = .ok (.aload_n 0, 1) := by decide +kernel
theorem dX5_init_5 : decode cX5_init 5 = .ok (.iconst 2, 1) := by decide +kernel
theorem dX5_init_6 : decode cX5_init 6 = .ok (.iload_n 1, 1) := by decide +kernel
theorem dX5_init_7 : decode cX5_init 7 = .ok (.imul, 1) := by decide +kernel
theorem dX5_init_8 : decode cX5_init 8 = .ok (.newarray .long, 2) := by decide +kernel
theorem dX5_init_10 : decode cX5_init 10 = .ok (.putfield 7, 3) := by decide +kernel
theorem dX5_init_13 : decode cX5_init 13 = .ok (.return_, 1) := by decide +kernel
theorem dX5_at_0 : decode cX5_at 0 = .ok (.aload_n 0, 1) := by decide +kernel
theorem dX5_at_1 : decode cX5_at 1 = .ok (.getfield 7, 3) := by decide +kernel
theorem dX5_at_4 : decode cX5_at 4 = .ok (.iconst 2, 1) := by decide +kernel
theorem dX5_at_5 : decode cX5_at 5 = .ok (.iload_n 1, 1) := by decide +kernel
theorem dX5_at_6 : decode cX5_at 6 = .ok (.imul, 1) := by decide +kernel
theorem dX5_at_7 : decode cX5_at 7 = .ok (.iload_n 2, 1) := by decide +kernel
theorem dX5_at_8 : decode cX5_at 8 = .ok (.iadd, 1) := by decide +kernel
theorem dX5_at_9 : decode cX5_at 9 = .ok (.laload, 1) := by decide +kernel
theorem dX5_at_10 : decode cX5_at 10 = .ok (.lreturn, 1) := by decide +kernel
theorem dX5_put_0 : decode cX5_put 0 = .ok (.aload_n 0, 1) := by decide +kernel
theorem dX5_put_1 : decode cX5_put 1 = .ok (.getfield 7, 3) := by decide +kernel
theorem dX5_put_4 : decode cX5_put 4 = .ok (.iconst 2, 1) := by decide +kernel
theorem dX5_put_5 : decode cX5_put 5 = .ok (.iload_n 1, 1) := by decide +kernel
theorem dX5_put_6 : decode cX5_put 6 = .ok (.imul, 1) := by decide +kernel
theorem dX5_put_7 : decode cX5_put 7 = .ok (.iload_n 2, 1) := by decide +kernel
theorem dX5_put_8 : decode cX5_put 8 = .ok (.iadd, 1) := by decide +kernel
theorem dX5_put_9 : decode cX5_put 9 = .ok (.lload_n 3, 1) := by decide +kernel
theorem dX5_put_10 : decode cX5_put 10 = .ok (.lastore, 1) := by decide +kernel
theorem dX5_put_11 : decode cX5_put 11 = .ok (.return_, 1) := by decide +kernel
set_option maxRecDepth 20000 in
theorem ggX5_copy_X5_at : GoodIn wsX5_copy wsX5_at := goodIn_r _ [5, 6, 11] (by decide +kernel) (by decide +kernel)
set_option maxRecDepth 20000 in
theorem gX5_copy_X5_at : GoodIn wsX5_copy (wsV RX5 13 RX5 yX5_at wsX5_at) := goodIn_app (goodIn_of _ (by decide +kernel)) ggX5_copy_X5_at
set_option maxRecDepth 20000 in
theorem ggX5_copy_X5_put : GoodIn wsX5_copy wsX5_put := goodIn_r _ [10, 6, 11] (by decide +kernel) (by decide +kernel)
set_option maxRecDepth 20000 in
theorem gX5_copy_X5_put : GoodIn wsX5_copy (wsV RX5 17 RX5 yX5_put wsX5_put) := goodIn_app (goodIn_of _ (by decide +kernel)) ggX5_copy_X5_put
theorem dX5_copy_0 : decode cX5_copy 0 = .ok (.aload_n 0, 1) := by decide +kernel
theorem dX5_copy_1 : decode cX5_copy 1 = .ok (.iload_n 1, 1) := by decide +kernel
theorem dX5_copy_2 : decode cX5_copy 2 = .ok (.iconst 0, 1) := by decide +kernel
theorem dX5_copy_3 : decode cX5_copy 3 = .ok (.aload_n 2, 1) := by decide +kernel
theorem dX5_copy_4 : decode cX5_copy 4 = .ok (.iload_n 3, 1) := by decide +kernel
theorem dX5_copy_5 : decode cX5_copy 5 = .ok (.iconst 0, 1) := by decide +kernel
theorem dX5_copy_6 : decode cX5_copy 6 = .ok (.invokevirtual 13, 3) := by decide +kernel
theorem dX5_copy_9 : decode cX5_copy 9 = .ok (.invokevirtual 17, 3) := by decide +kernel
theorem dX5_copy_12 : decode cX5_copy 12 = .ok (.aload_n 0, 1) := by decide +kernel
theorem dX5_copy_13 : decode cX5_copy 13 = .ok (.iload_n 1, 1) := by decide +kernel
theorem dX5_copy_14 : decode cX5_copy 14 = .ok (.iconst 1, 1) := by decide +kernel
theorem dX5_copy_15 : decode cX5_copy 15 = .ok (.aload_n 2, 1) := by decide +kernel
theorem dX5_copy_16 : decode cX5_copy 16 = .ok (.iload_n 3, 1) := by decide +kernel
theorem dX5_copy_17 : decode cX5_copy 17 = .ok (.iconst 1, 1) := by decide +kernel
theorem dX5_copy_18 : decode cX5_copy 18 = .ok (.invokevirtual 13, 3) := by decide +kernel
theorem dX5_copy_21 : decode cX5_copy 21 = .ok (.invokevirtual 17, 3) := by decide +kernel
theorem dX5_copy_24 : decode cX5_copy 24 = .ok (.return_, 1) := by decide +kernel
set_option maxRecDepth 20000 in
theorem ggX6_init_X5_init : GoodIn wsX6_init wsX5_init := goodIn_r _ [12, 13, 2, 3, 14, 15, 16] (by decide +kernel) (by decide +kernel)
set_option maxRecDepth 20000 in
theorem gX6_init_X5_init : GoodIn wsX6_init (wsX5_init) := ggX6_init_X5_init
theorem dX6_init_0 : decode cX6_init 0 = .ok (.aload_n 0, 1) := by decide +kernel
theorem dX6_init_1 : decode cX6_init 1 = .ok (.invokespecial 3, 3) := by decide +kernel
theorem dX6_init_4 : decode cX6_init 4 = .ok (.aload_n 0, 1) := by decide +kernel
theorem dX6_init_5 : decode cX6_init 5 = .ok (.new 9, 3) := by decide +kernel
theorem dX6_init_8 : decode cX6_init 8 = .ok (.dup, 1) := by decide +kernel
theorem dX6_init_9 : decode cX6_init 9 = .ok (.bipush 39, 2) := by decide +kernel
theorem dX6_init_11 : decode cX6_init 11 = .ok (.invokespecial 11, 3) := by decide +kernel
theorem dX6_init_14 : decode cX6_init 14 = .ok (.putfield 14, 3) := by decide +kernel
theorem dX6_init_17 : decode cX6_init 17 = .ok (.aload_n 0, 1) := by decide +kernel
theorem dX6_init_18 : decode cX6_init 18 = .ok (.iconst (-1), 1) := by decide +kernel
theorem dX6_init_19 : decode cX6_init 19 = .ok (.putfield 20, 3) := by decide +kernel
theorem dX6_init_22 : decode cX6_init 22 = .ok (.aload_n 0, 1) := by decide +kernel
theorem dX6_init_23 : decode cX6_init 23 = .ok (.iconst 0, 1) := by decide +kernel
theorem dX6_init_24 : decode cX6_init 24 = .ok (.putfield 24, 3) := by decide +kernel
theorem dX6_init_27 : decode cX6_init 27 = .ok (.return_, 1) := by decide +kernel
theorem dX6_open_0 : decode cX6_open 0 = .ok (.aload_n 0, 1) := by decide +kernel
theorem dX6_open_1 : decode cX6_open 1 = .ok (.iload_n 1, 1) := by decide +kernel
theorem dX6_open_2 : decode cX6_open 2 = .ok (.putfield 20, 3) := by decide +kernel
theorem dX6_open_5 : decode cX6_open 5 = .ok (.aload_n 0, 1) := by decide +kernel
theorem dX6_open_6 : decode cX6_open 6 = .ok (.iload_n 2, 1) := by decide +kernel
theorem dX6_open_7 : decode cX6_open 7 = .ok (.putfield 24, 3) := by decide +kernel
theorem dX6_open_10 : decode cX6_open 10 = .ok (.return_, 1) := by decide +kernel
theorem dX6_clear_0 : decode cX6_clear 0 = .ok (.aload_n 0, 1) := by decide +kernel
theorem dX6_clear_1 : decode cX6_clear 1 = .ok (.iconst (-1), 1) := by decide +kernel
theorem dX6_clear_2 : decode cX6_clear 2 = .ok (.putfield 20, 3) := by decide +kernel
theorem dX6_clear_5 : decode cX6_clear 5 = .ok (.aload_n 0, 1) := by decide +kernel
theorem dX6_clear_6 : decode cX6_clear 6 = .ok (.iconst 0, 1) := by decide +kernel
theorem dX6_clear_7 : decode cX6_clear 7 = .ok (.putfield 24, 3) := by decide +kernel
theorem dX6_clear_10 : decode cX6_clear 10 = .ok (.return_, 1) := by decide +kernel
theorem dX6_isThere_0 : decode cX6_isThere 0 = .ok (.aload_n 0, 1) := by decide +kernel
theorem dX6_isThere_1 : decode cX6_isThere 1 = .ok (.getfield 20, 3) := by decide +kernel
theorem dX6_isThere_4 : decode cX6_isThere 4 = .ok (.iconst (-1), 1) := by decide +kernel
theorem dX6_isThere_5 : decode cX6_isThere 5 = .ok (.if_icmp .eq 7, 3) := by decide +kernel
theorem dX6_isThere_8 : decode cX6_isThere 8 = .ok (.iconst 1, 1) := by decide +kernel
theorem dX6_isThere_9 : decode cX6_isThere 9 = .ok (.goto 4, 3) := by decide +kernel
theorem dX6_isThere_12 : decode cX6_isThere 12 = .ok (.iconst 0, 1) := by decide +kernel
theorem dX6_isThere_13 : decode cX6_isThere 13 = .ok (.ireturn, 1) := by decide +kernel
theorem dX6_hasPart_0 : decode cX6_hasPart 0 = .ok (.iload_n 1, 1) := by decide +kernel
theorem dX6_hasPart_1 : decode cX6_hasPart 1 = .ok (.ifCond .lt 15, 3) := by decide +kernel
theorem dX6_hasPart_4 : decode cX6_hasPart 4 = .ok (.iload_n 1, 1) := by decide +kernel
theorem dX6_hasPart_5 : decode cX6_hasPart 5 = .ok (.aload_n 0, 1) := by decide +kernel
theorem dX6_hasPart_6 : decode cX6_hasPart 6 = .ok (.getfield 24, 3) := by decide +kernel
theorem dX6_hasPart_9 : decode cX6_hasPart 9 = .ok (.if_icmp .ge 7, 3) := by decide +kernel
theorem dX6_hasPart_12 : decode cX6_hasPart 12 = .ok (.iconst 1, 1) := by decide +kernel
theorem dX6_hasPart_13 : decode cX6_hasPart 13 = .ok (.goto 4, 3) := by decide +kernel
theorem dX6_hasPart_16 : decode cX6_hasPart 16 = .ok (.iconst 0, 1) := by decide +kernel
theorem dX6_hasPart_17 : decode cX6_hasPart 17 = .ok (.ireturn, 1) := by decide +kernel
set_option maxRecDepth 20000 in
theorem ggX7_init_X5_init : GoodIn wsX7_init wsX5_init := goodIn_r _ [11, 12, 2, 3, 13, 14, 15] (by decide +kernel) (by decide +kernel)
set_option maxRecDepth 20000 in
theorem gX7_init_X5_init : GoodIn wsX7_init (wsX5_init) := ggX7_init_X5_init
theorem dX7_init_0 : decode cX7_init 0 = .ok (.aload_n 0, 1) := by decide +kernel
theorem dX7_init_1 : decode cX7_init 1 = .ok (.invokespecial 3, 3) := by decide +kernel
theorem dX7_init_4 : decode cX7_init 4 = .ok (.aload_n 0, 1) := by decide +kernel
theorem dX7_init_5 : decode cX7_init 5 = .ok (.new 9, 3) := by decide +kernel
theorem dX7_init_8 : decode cX7_init 8 = .ok (.dup, 1) := by decide +kernel
theorem dX7_init_9 : decode cX7_init 9 = .ok (.bipush 32, 2) := by decide +kernel
theorem dX7_init_11 : decode cX7_init 11 = .ok (.invokespecial 11, 3) := by decide +kernel
theorem dX7_init_14 : decode cX7_init 14 = .ok (.putfield 14, 3) := by decide +kernel
theorem dX7_init_17 : decode cX7_init 17 = .ok (.aload_n 0, 1) := by decide +kernel
theorem dX7_init_18 : decode cX7_init 18 = .ok (.iconst 0, 1) := by decide +kernel
theorem dX7_init_19 : decode cX7_init 19 = .ok (.putfield 20, 3) := by decide +kernel
theorem dX7_init_22 : decode cX7_init 22 = .ok (.return_, 1) := by decide +kernel
theorem dX7_slot_0 : decode cX7_slot 0 = .ok (.iconst 1, 1) := by decide +kernel
theorem dX7_slot_1 : decode cX7_slot 1 = .ok (.iload_n 0, 1) := by decide +kernel
theorem dX7_slot_2 : decode cX7_slot 2 = .ok (.iload_n 1, 1) := by decide +kernel
theorem dX7_slot_3 : decode cX7_slot 3 = .ok (.isub, 1) := by decide +kernel
theorem dX7_slot_4 : decode cX7_slot 4 = .ok (.ishl, 1) := by decide +kernel
theorem dX7_slot_5 : decode cX7_slot 5 = .ok (.iload_n 2, 1) := by decide +kernel
theorem dX7_slot_6 : decode cX7_slot 6 = .ok (.iadd, 1) := by decide +kernel
theorem dX7_slot_7 : decode cX7_slot 7 = .ok (.ireturn, 1) := by decide +kernel
theorem dX7_clear_0 : decode cX7_clear 0 = .ok (.aload_n 0, 1) := by decide +kernel
theorem dX7_clear_1 : decode cX7_clear 1 = .ok (.iconst 0, 1) := by decide +kernel
theorem dX7_clear_2 : decode cX7_clear 2 = .ok (.putfield 20, 3) := by decide +kernel
theorem dX7_clear_5 : decode cX7_clear 5 = .ok (.return_, 1) := by decide +kernel
theorem dX7_isMade_0 : decode cX7_isMade 0 = .ok (.iload_n 2, 1) := by decide +kernel
theorem dX7_isMade_1 : decode cX7_isMade 1 = .ok (.ifCond .lt 26, 3) := by decide +kernel
theorem dX7_isMade_4 : decode cX7_isMade 4 = .ok (.iload_n 2, 1) := by decide +kernel
theorem dX7_isMade_5 : decode cX7_isMade 5 = .ok (.iload_n 1, 1) := by decide +kernel
theorem dX7_isMade_6 : decode cX7_isMade 6 = .ok (.if_icmp .gt 21, 3) := by decide +kernel
theorem dX7_isMade_9 : decode cX7_isMade 9 = .ok (.iload_n 3, 1) := by decide +kernel
theorem dX7_isMade_10 : decode cX7_isMade 10 = .ok (.ifCond .lt 17, 3) := by decide +kernel
theorem dX7_isMade_13 : decode cX7_isMade 13 = .ok (.iload_n 3, 1) := by decide +kernel
theorem dX7_isMade_14 : decode cX7_isMade 14 = .ok (.aload_n 0, 1) := by decide +kernel
theorem dX7_isMade_15 : decode cX7_isMade 15 = .ok (.getfield 20, 3) := by decide +kernel
theorem dX7_isMade_18 : decode cX7_isMade 18 = .ok (.iload_n 2, 1) := by decide +kernel
theorem dX7_isMade_19 : decode cX7_isMade 19 = .ok (.ishr, 1) := by decide +kernel
theorem dX7_isMade_20 : decode cX7_isMade 20 = .ok (.if_icmp .ge 7, 3) := by decide +kernel
theorem dX7_isMade_23 : decode cX7_isMade 23 = .ok (.iconst 1, 1) := by decide +kernel
theorem dX7_isMade_24 : decode cX7_isMade 24 = .ok (.goto 4, 3) := by decide +kernel
theorem dX7_isMade_27 : decode cX7_isMade 27 = .ok (.iconst 0, 1) := by decide +kernel
theorem dX7_isMade_28 : decode cX7_isMade 28 = .ok (.ireturn, 1) := by decide +kernel
set_option maxRecDepth 20000 in
theorem ggX7_addLeaf_X7_slot : GoodIn wsX7_addLeaf wsX7_slot := goodIn_r _ [7] (by decide +kernel) (by decide +kernel)
set_option maxRecDepth 20000 in
theorem gX7_addLeaf_X7_slot : GoodIn wsX7_addLeaf (va_wsS RX7 29 yX7_slot wsX7_slot) := goodIn_app (goodIn_of _ (by decide +kernel)) ggX7_addLeaf_X7_slot
set_option maxRecDepth 20000 in
theorem ggX7_addLeaf_X2_giveTo : GoodIn wsX7_addLeaf wsX2_giveTo := goodIn_r _ [12, 13, 14, 15, 16, 17, 18, 19, 20, 57, 58, 59] (by decide +kernel) (by decide +kernel)
set_option maxRecDepth 20000 in
theorem gX7_addLeaf_X2_giveTo : GoodIn wsX7_addLeaf (wsV RX7 33 RX2 yX2_giveTo wsX2_giveTo) := goodIn_app (goodIn_of _ (by decide +kernel)) ggX7_addLeaf_X2_giveTo
set_option maxRecDepth 20000 in
theorem ggX7_addLeaf_X7_hashNode : GoodIn wsX7_addLeaf wsX7_hashNode := goodIn_r _ [24, 25, 1, 2, 26, 27, 28, 11, 29, 30, 31, 32, 33, 13, 14, 34, 35, 36, 37, 38, 39, 40, 41, 42, 4, 5, 6, 7, 43, 44, 45, 46, 47, 48, 49, 18, 50, 20, 53, 54, 55, 56, 51, 52, 57, 58, 59] (by decide +kernel) (by decide +kernel)
set_option maxRecDepth 20000 in
theorem gX7_addLeaf_X7_hashNode : GoodIn wsX7_addLeaf (wsV RX7 39 RX7 yX7_hashNode wsX7_hashNode) := goodIn_app (goodIn_of _ (by decide +kernel)) ggX7_addLeaf_X7_hashNode
theorem dX7_addLeaf_0 : decode cX7_addLeaf 0 = .ok (.aload_n 2, 1) := by decide +kernel
theorem dX7_addLeaf_1 : decode cX7_addLeaf 1 = .ok (.aload_n 0, 1) := by decide +kernel
theorem dX7_addLeaf_2 : decode cX7_addLeaf 2 = .ok (.getfield 14, 3) := by decide +kernel
theorem dX7_addLeaf_5 : decode cX7_addLeaf 5 = .ok (.aload_n 1, 1) := by decide +kernel
theorem dX7_addLeaf_6 : decode cX7_addLeaf 6 = .ok (.getfield 24, 3) := by decide +kernel
theorem dX7_addLeaf_9 : decode cX7_addLeaf 9 = .ok (.iconst 0, 1) := by decide +kernel
theorem dX7_addLeaf_10 : decode cX7_addLeaf 10 = .ok (.aload_n 0, 1) := by decide +kernel
theorem dX7_addLeaf_11 : decode cX7_addLeaf 11 = .ok (.getfield 20, 3) := by decide +kernel
theorem dX7_addLeaf_14 : decode cX7_addLeaf 14 = .ok (.invokestatic 29, 3) := by decide +kernel
theorem dX7_addLeaf_17 : decode cX7_addLeaf 17 = .ok (.invokevirtual 33, 3) := by decide +kernel
theorem dX7_addLeaf_20 : decode cX7_addLeaf 20 = .ok (.aload_n 0, 1) := by decide +kernel
theorem dX7_addLeaf_21 : decode cX7_addLeaf 21 = .ok (.dup, 1) := by decide +kernel
theorem dX7_addLeaf_22 : decode cX7_addLeaf 22 = .ok (.getfield 20, 3) := by decide +kernel
theorem dX7_addLeaf_25 : decode cX7_addLeaf 25 = .ok (.iconst 1, 1) := by decide +kernel
theorem dX7_addLeaf_26 : decode cX7_addLeaf 26 = .ok (.iadd, 1) := by decide +kernel
theorem dX7_addLeaf_27 : decode cX7_addLeaf 27 = .ok (.putfield 20, 3) := by decide +kernel
theorem dX7_addLeaf_30 : decode cX7_addLeaf 30 = .ok (.iconst 1, 1) := by decide +kernel
theorem dX7_addLeaf_31 : decode cX7_addLeaf 31 = .ok (.istore_n 3, 1) := by decide +kernel
theorem dX7_addLeaf_32 : decode cX7_addLeaf 32 = .ok (.iload_n 3, 1) := by decide +kernel
theorem dX7_addLeaf_33 : decode cX7_addLeaf 33 = .ok (.aload_n 1, 1) := by decide +kernel
theorem dX7_addLeaf_34 : decode cX7_addLeaf 34 = .ok (.getfield 24, 3) := by decide +kernel
theorem dX7_addLeaf_37 : decode cX7_addLeaf 37 = .ok (.if_icmp .gt 66, 3) := by decide +kernel
theorem dX7_addLeaf_40 : decode cX7_addLeaf 40 = .ok (.iconst 1, 1) := by decide +kernel
theorem dX7_addLeaf_41 : decode cX7_addLeaf 41 = .ok (.iload_n 3, 1) := by decide +kernel
theorem dX7_addLeaf_42 : decode cX7_addLeaf 42 = .ok (.ishl, 1) := by decide +kernel
theorem dX7_addLeaf_43 : decode cX7_addLeaf 43 = .ok (.istore 4, 2) := by decide +kernel
theorem dX7_addLeaf_45 : decode cX7_addLeaf 45 = .ok (.aload_n 0, 1) := by decide +kernel
theorem dX7_addLeaf_46 : decode cX7_addLeaf 46 = .ok (.getfield 20, 3) := by decide +kernel
theorem dX7_addLeaf_49 : decode cX7_addLeaf 49 = .ok (.iload 4, 2) := by decide +kernel
theorem dX7_addLeaf_51 : decode cX7_addLeaf 51 = .ok (.iconst 1, 1) := by decide +kernel
theorem dX7_addLeaf_52 : decode cX7_addLeaf 52 = .ok (.isub, 1) := by decide +kernel
theorem dX7_addLeaf_53 : decode cX7_addLeaf 53 = .ok (.iand, 1) := by decide +kernel
theorem dX7_addLeaf_54 : decode cX7_addLeaf 54 = .ok (.ifCond .eq 6, 3) := by decide +kernel
theorem dX7_addLeaf_57 : decode cX7_addLeaf 57 = .ok (.goto 46, 3) := by decide +kernel
theorem dX7_addLeaf_60 : decode cX7_addLeaf 60 = .ok (.aload_n 0, 1) := by decide +kernel
theorem dX7_addLeaf_61 : decode cX7_addLeaf 61 = .ok (.getfield 20, 3) := by decide +kernel
theorem dX7_addLeaf_64 : decode cX7_addLeaf 64 = .ok (.iload_n 3, 1) := by decide +kernel
theorem dX7_addLeaf_65 : decode cX7_addLeaf 65 = .ok (.ishr, 1) := by decide +kernel
theorem dX7_addLeaf_66 : decode cX7_addLeaf 66 = .ok (.iconst 1, 1) := by decide +kernel
theorem dX7_addLeaf_67 : decode cX7_addLeaf 67 = .ok (.isub, 1) := by decide +kernel
theorem dX7_addLeaf_68 : decode cX7_addLeaf 68 = .ok (.istore 5, 2) := by decide +kernel
theorem dX7_addLeaf_70 : decode cX7_addLeaf 70 = .ok (.aload_n 0, 1) := by decide +kernel
theorem dX7_addLeaf_71 : decode cX7_addLeaf 71 = .ok (.aload_n 1, 1) := by decide +kernel
theorem dX7_addLeaf_72 : decode cX7_addLeaf 72 = .ok (.iload_n 3, 1) := by decide +kernel
theorem dX7_addLeaf_73 : decode cX7_addLeaf 73 = .ok (.iload 5, 2) := by decide +kernel
theorem dX7_addLeaf_75 : decode cX7_addLeaf 75 = .ok (.aload_n 2, 1) := by decide +kernel
theorem dX7_addLeaf_76 : decode cX7_addLeaf 76 = .ok (.invokevirtual 39, 3) := by decide +kernel
theorem dX7_addLeaf_79 : decode cX7_addLeaf 79 = .ok (.aload_n 2, 1) := by decide +kernel
theorem dX7_addLeaf_80 : decode cX7_addLeaf 80 = .ok (.aload_n 0, 1) := by decide +kernel
theorem dX7_addLeaf_81 : decode cX7_addLeaf 81 = .ok (.getfield 14, 3) := by decide +kernel
theorem dX7_addLeaf_84 : decode cX7_addLeaf 84 = .ok (.aload_n 1, 1) := by decide +kernel
theorem dX7_addLeaf_85 : decode cX7_addLeaf 85 = .ok (.getfield 24, 3) := by decide +kernel
theorem dX7_addLeaf_88 : decode cX7_addLeaf 88 = .ok (.iload_n 3, 1) := by decide +kernel
theorem dX7_addLeaf_89 : decode cX7_addLeaf 89 = .ok (.iload 5, 2) := by decide +kernel
theorem dX7_addLeaf_91 : decode cX7_addLeaf 91 = .ok (.invokestatic 29, 3) := by decide +kernel
theorem dX7_addLeaf_94 : decode cX7_addLeaf 94 = .ok (.invokevirtual 33, 3) := by decide +kernel
theorem dX7_addLeaf_97 : decode cX7_addLeaf 97 = .ok (.iinc 3 1, 3) := by decide +kernel
theorem dX7_addLeaf_100 : decode cX7_addLeaf 100 = .ok (.goto (-68), 3) := by decide +kernel
theorem dX7_addLeaf_103 : decode cX7_addLeaf 103 = .ok (.return_, 1) := by decide +kernel
set_option maxRecDepth 20000 in
theorem ggX7_hashNode_X2_startNode : GoodIn wsX7_hashNode wsX2_startNode := goodIn_r _ [8, 9, 10, 11, 7, 12, 13, 14, 15, 16, 17, 18, 19, 20, 21, 22, 23, 44, 45] (by decide +kernel) (by decide +kernel)
set_option maxRecDepth 20000 in
theorem gX7_hashNode_X2_startNode : GoodIn wsX7_hashNode (wsV RX7 47 RX2 yX2_startNode wsX2_startNode) := goodIn_app (goodIn_of _ (by decide +kernel)) ggX7_hashNode_X2_startNode
set_option maxRecDepth 20000 in
theorem ggX7_hashNode_X7_slot : GoodIn wsX7_hashNode wsX7_slot := goodIn_r _ [27] (by decide +kernel) (by decide +kernel)
set_option maxRecDepth 20000 in
theorem gX7_hashNode_X7_slot : GoodIn wsX7_hashNode (va_wsS RX7 29 yX7_slot wsX7_slot) := goodIn_app (goodIn_of _ (by decide +kernel)) ggX7_hashNode_X7_slot
set_option maxRecDepth 20000 in
theorem ggX7_hashNode_X2_addPair : GoodIn wsX7_hashNode wsX2_addPair := goodIn_r _ [31, 32, 33, 34, 35, 36, 37, 15, 16, 17, 7, 18, 13, 14, 19, 20, 21, 22, 23, 46, 44, 45] (by decide +kernel) (by decide +kernel)
set_option maxRecDepth 20000 in
theorem gX7_hashNode_X2_addPair : GoodIn wsX7_hashNode (wsV RX7 51 RX2 yX2_addPair wsX2_addPair) := goodIn_app (goodIn_of _ (by decide +kernel)) ggX7_hashNode_X2_addPair
theorem dX7_hashNode_0 : decode cX7_hashNode 0 = .ok (.aload 4, 2) := by decide +kernel
theorem dX7_hashNode_2 : decode cX7_hashNode 2 = .ok (.aload_n 1, 1) := by decide +kernel
theorem dX7_hashNode_3 : decode cX7_hashNode 3 = .ok (.getfield 43, 3) := by decide +kernel
theorem dX7_hashNode_6 : decode cX7_hashNode 6 = .ok (.iload_n 2, 1) := by decide +kernel
theorem dX7_hashNode_7 : decode cX7_hashNode 7 = .ok (.iload_n 3, 1) := by decide +kernel
theorem dX7_hashNode_8 : decode cX7_hashNode 8 = .ok (.invokevirtual 47, 3) := by decide +kernel
theorem dX7_hashNode_11 : decode cX7_hashNode 11 = .ok (.aload 4, 2) := by decide +kernel
theorem dX7_hashNode_13 : decode cX7_hashNode 13 = .ok (.aload_n 0, 1) := by decide +kernel
theorem dX7_hashNode_14 : decode cX7_hashNode 14 = .ok (.getfield 14, 3) := by decide +kernel
theorem dX7_hashNode_17 : decode cX7_hashNode 17 = .ok (.aload_n 1, 1) := by decide +kernel
theorem dX7_hashNode_18 : decode cX7_hashNode 18 = .ok (.getfield 24, 3) := by decide +kernel
theorem dX7_hashNode_21 : decode cX7_hashNode 21 = .ok (.iload_n 2, 1) := by decide +kernel
theorem dX7_hashNode_22 : decode cX7_hashNode 22 = .ok (.iconst 1, 1) := by decide +kernel
theorem dX7_hashNode_23 : decode cX7_hashNode 23 = .ok (.isub, 1) := by decide +kernel
theorem dX7_hashNode_24 : decode cX7_hashNode 24 = .ok (.iconst 2, 1) := by decide +kernel
theorem dX7_hashNode_25 : decode cX7_hashNode 25 = .ok (.iload_n 3, 1) := by decide +kernel
theorem dX7_hashNode_26 : decode cX7_hashNode 26 = .ok (.imul, 1) := by decide +kernel
theorem dX7_hashNode_27 : decode cX7_hashNode 27 = .ok (.invokestatic 29, 3) := by decide +kernel
theorem dX7_hashNode_30 : decode cX7_hashNode 30 = .ok (.invokevirtual 51, 3) := by decide +kernel
theorem dX7_hashNode_33 : decode cX7_hashNode 33 = .ok (.aload 4, 2) := by decide +kernel
theorem dX7_hashNode_35 : decode cX7_hashNode 35 = .ok (.aload_n 0, 1) := by decide +kernel
theorem dX7_hashNode_36 : decode cX7_hashNode 36 = .ok (.getfield 14, 3) := by decide +kernel
theorem dX7_hashNode_39 : decode cX7_hashNode 39 = .ok (.aload_n 1, 1) := by decide +kernel
theorem dX7_hashNode_40 : decode cX7_hashNode 40 = .ok (.getfield 24, 3) := by decide +kernel
theorem dX7_hashNode_43 : decode cX7_hashNode 43 = .ok (.iload_n 2, 1) := by decide +kernel
theorem dX7_hashNode_44 : decode cX7_hashNode 44 = .ok (.iconst 1, 1) := by decide +kernel
theorem dX7_hashNode_45 : decode cX7_hashNode 45 = .ok (.isub, 1) := by decide +kernel
theorem dX7_hashNode_46 : decode cX7_hashNode 46 = .ok (.iconst 2, 1) := by decide +kernel
theorem dX7_hashNode_47 : decode cX7_hashNode 47 = .ok (.iload_n 3, 1) := by decide +kernel
theorem dX7_hashNode_48 : decode cX7_hashNode 48 = .ok (.imul, 1) := by decide +kernel
theorem dX7_hashNode_49 : decode cX7_hashNode 49 = .ok (.iconst 1, 1) := by decide +kernel
theorem dX7_hashNode_50 : decode cX7_hashNode 50 = .ok (.iadd, 1) := by decide +kernel
theorem dX7_hashNode_51 : decode cX7_hashNode 51 = .ok (.invokestatic 29, 3) := by decide +kernel
theorem dX7_hashNode_54 : decode cX7_hashNode 54 = .ok (.invokevirtual 51, 3) := by decide +kernel
theorem dX7_hashNode_57 : decode cX7_hashNode 57 = .ok (.return_, 1) := by decide +kernel

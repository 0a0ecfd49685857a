theorem dX9_init_0 : decode cX9_init 0 = .ok (.aload_n 0, 1) := by decide +kernel
theorem dX9_init_1 : decode cX9_init 1 = .ok (.invokespecial 1, 3) := by decide +kernel
theorem dX9_init_4 : decode cX9_init 4 = .ok (.aload_n 0, 1) := by decide +kernel
theorem dX9_init_5 : decode cX9_init 5 = .ok (.iconst 1, 1) := by decide +kernel
theorem dX9_init_6 : decode cX9_init 6 = .ok (.putfield 7, 3) := by decide +kernel
theorem dX9_init_9 : decode cX9_init 9 = .ok (.aload_n 0, 1) := by decide +kernel
theorem dX9_init_10 : decode cX9_init 10 = .ok (.bipush 31, 2) := by decide +kernel
theorem dX9_init_12 : decode cX9_init 12 = .ok (.newarray .long, 2) := by decide +kernel
theorem dX9_init_14 : decode cX9_init 14 = .ok (.putfield 13, 3) := by decide +kernel
theorem dX9_init_17 : decode cX9_init 17 = .ok (.aload_n 0, 1) := by decide +kernel
theorem dX9_init_18 : decode cX9_init 18 = .ok (.bipush 31, 2) := by decide +kernel
theorem dX9_init_20 : decode cX9_init 20 = .ok (.newarray .long, 2) := by decide +kernel
theorem dX9_init_22 : decode cX9_init 22 = .ok (.putfield 17, 3) := by decide +kernel
theorem dX9_init_25 : decode cX9_init 25 = .ok (.aload_n 0, 1) := by decide +kernel
theorem dX9_init_26 : decode cX9_init 26 = .ok (.bipush 20, 2) := by decide +kernel
theorem dX9_init_28 : decode cX9_init 28 = .ok (.newarray .long, 2) := by decide +kernel
theorem dX9_init_30 : decode cX9_init 30 = .ok (.putfield 20, 3) := by decide +kernel
theorem dX9_init_33 : decode cX9_init 33 = .ok (.aload_n 0, 1) := by decide +kernel
theorem dX9_init_34 : decode cX9_init 34 = .ok (.bipush 39, 2) := by decide +kernel
theorem dX9_init_36 : decode cX9_init 36 = .ok (.newarray .long, 2) := by decide +kernel
theorem dX9_init_38 : decode cX9_init 38 = .ok (.putfield 23, 3) := by decide +kernel
theorem dX9_init_41 : decode cX9_init 41 = .ok (.aload_n 0, 1) := by decide +kernel
theorem dX9_init_42 : decode cX9_init 42 = .ok (.bipush 39, 2) := by decide +kernel
theorem dX9_init_44 : decode cX9_init 44 = .ok (.newarray .long, 2) := by decide +kernel
theorem dX9_init_46 : decode cX9_init 46 = .ok (.putfield 26, 3) := by decide +kernel
theorem dX9_init_49 : decode cX9_init 49 = .ok (.aload_n 0, 1) := by decide +kernel
theorem dX9_init_50 : decode cX9_init 50 = .ok (.bipush 35, 2) := by decide +kernel
theorem dX9_init_52 : decode cX9_init 52 = .ok (.newarray .long, 2) := by decide +kernel
theorem dX9_init_54 : decode cX9_init 54 = .ok (.putfield 29, 3) := by decide +kernel
theorem dX9_init_57 : decode cX9_init 57 = .ok (.aload_n 0, 1) := by decide +kernel
theorem dX9_init_58 : decode cX9_init 58 = .ok (.bipush 35, 2) := by decide +kernel
theorem dX9_init_60 : decode cX9_init 60 = .ok (.newarray .long, 2) := by decide +kernel
theorem dX9_init_62 : decode cX9_init 62 = .ok (.putfield 32, 3) := by decide +kernel
theorem dX9_init_65 : decode cX9_init 65 = .ok (.aload_n 0, 1) := by decide +kernel
theorem dX9_init_66 : decode cX9_init 66 = .ok (.bipush 35, 2) := by decide +kernel
theorem dX9_init_68 : decode cX9_init 68 = .ok (.newarray .int, 2) := by decide +kernel
theorem dX9_init_70 : decode cX9_init 70 = .ok (.putfield 35, 3) := by decide +kernel
theorem dX9_init_73 : decode cX9_init 73 = .ok (.return_, 1) := by decide +kernel
theorem dX9_mixed_0 : decode cX9_mixed 0 = .ok (.lload_n 0, 1) := by decide +kernel
theorem dX9_mixed_1 : decode cX9_mixed 1 = .ok (.lload_n 0, 1) := by decide +kernel
theorem dX9_mixed_2 : decode cX9_mixed 2 = .ok (.bipush 30, 2) := by decide +kernel
theorem dX9_mixed_4 : decode cX9_mixed 4 = .ok (.lushr, 1) := by decide +kernel
theorem dX9_mixed_5 : decode cX9_mixed 5 = .ok (.lxor, 1) := by decide +kernel
theorem dX9_mixed_6 : decode cX9_mixed 6 = .ok (.ldc2_w 39, 3) := by decide +kernel
theorem dX9_mixed_9 : decode cX9_mixed 9 = .ok (.lmul, 1) := by decide +kernel
theorem dX9_mixed_10 : decode cX9_mixed 10 = .ok (.lstore_n 2, 1) := by decide +kernel
theorem dX9_mixed_11 : decode cX9_mixed 11 = .ok (.lload_n 2, 1) := by decide +kernel
theorem dX9_mixed_12 : decode cX9_mixed 12 = .ok (.lload_n 2, 1) := by decide +kernel
theorem dX9_mixed_13 : decode cX9_mixed 13 = .ok (.bipush 27, 2) := by decide +kernel
theorem dX9_mixed_15 : decode cX9_mixed 15 = .ok (.lushr, 1) := by decide +kernel
theorem dX9_mixed_16 : decode cX9_mixed 16 = .ok (.lxor, 1) := by decide +kernel
theorem dX9_mixed_17 : decode cX9_mixed 17 = .ok (.ldc2_w 41, 3) := by decide +kernel
theorem dX9_mixed_20 : decode cX9_mixed 20 = .ok (.lmul, 1) := by decide +kernel
theorem dX9_mixed_21 : decode cX9_mixed 21 = .ok (.lstore_n 2, 1) := by decide +kernel
theorem dX9_mixed_22 : decode cX9_mixed 22 = .ok (.lload_n 2, 1) := by decide +kernel
theorem dX9_mixed_23 : decode cX9_mixed 23 = .ok (.lload_n 2, 1) := by decide +kernel
theorem dX9_mixed_24 : decode cX9_mixed 24 = .ok (.bipush 31, 2) := by decide +kernel
theorem dX9_mixed_26 : decode cX9_mixed 26 = .ok (.lushr, 1) := by decide +kernel
theorem dX9_mixed_27 : decode cX9_mixed 27 = .ok (.lxor, 1) := by decide +kernel
theorem dX9_mixed_28 : decode cX9_mixed 28 = .ok (.lreturn, 1) := by decide +kernel
theorem dX9_take_0 : decode cX9_take 0 = .ok (.aload_n 0, 1) := by decide +kernel
theorem dX9_take_1 : decode cX9_take 1 = .ok (.lload_n 1, 1) := by decide +kernel
theorem dX9_take_2 : decode cX9_take 2 = .ok (.putfield 43, 3) := by decide +kernel
theorem dX9_take_5 : decode cX9_take 5 = .ok (.aload_n 0, 1) := by decide +kernel
theorem dX9_take_6 : decode cX9_take 6 = .ok (.iload_n 3, 1) := by decide +kernel
theorem dX9_take_7 : decode cX9_take 7 = .ok (.i2l, 1) := by decide +kernel
theorem dX9_take_8 : decode cX9_take 8 = .ok (.putfield 47, 3) := by decide +kernel
theorem dX9_take_11 : decode cX9_take 11 = .ok (.return_, 1) := by decide +kernel
set_option maxRecDepth 20000 in
theorem ggX9_put_X9_mixed : GoodIn wsX9_put wsX9_mixed := goodIn_r _ [6, 7, 8] (by decide +kernel) (by decide +kernel)
set_option maxRecDepth 20000 in
theorem gX9_put_X9_mixed : GoodIn wsX9_put (va_wsS RX9 50 yX9_mixed wsX9_mixed) := goodIn_app (goodIn_of _ (by decide +kernel)) ggX9_put_X9_mixed
theorem dX9_put_0 : decode cX9_put 0 = .ok (.aload_n 0, 1) := by decide +kernel
theorem dX9_put_1 : decode cX9_put 1 = .ok (.aload_n 0, 1) := by decide +kernel
theorem dX9_put_2 : decode cX9_put 2 = .ok (.getfield 43, 3) := by decide +kernel
theorem dX9_put_5 : decode cX9_put 5 = .ok (.lload_n 1, 1) := by decide +kernel
theorem dX9_put_6 : decode cX9_put 6 = .ok (.lxor, 1) := by decide +kernel
theorem dX9_put_7 : decode cX9_put 7 = .ok (.invokestatic 50, 3) := by decide +kernel
theorem dX9_put_10 : decode cX9_put 10 = .ok (.putfield 43, 3) := by decide +kernel
theorem dX9_put_13 : decode cX9_put 13 = .ok (.aload_n 0, 1) := by decide +kernel
theorem dX9_put_14 : decode cX9_put 14 = .ok (.aload_n 0, 1) := by decide +kernel
theorem dX9_put_15 : decode cX9_put 15 = .ok (.getfield 47, 3) := by decide +kernel
theorem dX9_put_18 : decode cX9_put 18 = .ok (.aload_n 0, 1) := by decide +kernel
theorem dX9_put_19 : decode cX9_put 19 = .ok (.getfield 43, 3) := by decide +kernel
theorem dX9_put_22 : decode cX9_put 22 = .ok (.ladd, 1) := by decide +kernel
theorem dX9_put_23 : decode cX9_put 23 = .ok (.invokestatic 50, 3) := by decide +kernel
theorem dX9_put_26 : decode cX9_put 26 = .ok (.putfield 47, 3) := by decide +kernel
theorem dX9_put_29 : decode cX9_put 29 = .ok (.return_, 1) := by decide +kernel
set_option maxRecDepth 20000 in
theorem ggX9_carry_X9_take : GoodIn wsX9_carry wsX9_take := goodIn_r _ [9, 1, 2, 19, 20, 21, 22, 23, 24, 25, 26, 27, 28, 29, 30, 31, 32, 33, 34, 35, 36, 37, 38, 39] (by decide +kernel) (by decide +kernel)
set_option maxRecDepth 20000 in
theorem gX9_carry_X9_take : GoodIn wsX9_carry (wsV RX9 56 RX9 yX9_take wsX9_take) := goodIn_app (goodIn_of _ (by decide +kernel)) ggX9_carry_X9_take
set_option maxRecDepth 20000 in
theorem ggX9_carry_X9_put : GoodIn wsX9_carry wsX9_put := goodIn_r _ [13, 1, 2, 14, 15, 8, 16, 17, 18, 19, 20, 21, 22, 23, 24, 25, 26, 27, 28, 29, 30, 31, 32, 33, 34, 35, 36, 37, 38, 39] (by decide +kernel) (by decide +kernel)
set_option maxRecDepth 20000 in
theorem gX9_carry_X9_put : GoodIn wsX9_carry (wsV RX9 63 RX9 yX9_put wsX9_put) := goodIn_app (goodIn_of _ (by decide +kernel)) ggX9_carry_X9_put
theorem dX9_carry_0 : decode cX9_carry 0 = .ok (.iload_n 3, 1) := by decide +kernel
theorem dX9_carry_1 : decode cX9_carry 1 = .ok (.istore 5, 2) := by decide +kernel
theorem dX9_carry_3 : decode cX9_carry 3 = .ok (.iload 5, 2) := by decide +kernel
theorem dX9_carry_5 : decode cX9_carry 5 = .ok (.iload 4, 2) := by decide +kernel
theorem dX9_carry_7 : decode cX9_carry 7 = .ok (.if_icmp .ge 69, 3) := by decide +kernel
theorem dX9_carry_10 : decode cX9_carry 10 = .ok (.aload_n 0, 1) := by decide +kernel
theorem dX9_carry_11 : decode cX9_carry 11 = .ok (.getfield 43, 3) := by decide +kernel
theorem dX9_carry_14 : decode cX9_carry 14 = .ok (.lstore 6, 2) := by decide +kernel
theorem dX9_carry_16 : decode cX9_carry 16 = .ok (.aload_n 0, 1) := by decide +kernel
theorem dX9_carry_17 : decode cX9_carry 17 = .ok (.getfield 47, 3) := by decide +kernel
theorem dX9_carry_20 : decode cX9_carry 20 = .ok (.lstore 8, 2) := by decide +kernel
theorem dX9_carry_22 : decode cX9_carry 22 = .ok (.aload_n 0, 1) := by decide +kernel
theorem dX9_carry_23 : decode cX9_carry 23 = .ok (.ldc2_w 54, 3) := by decide +kernel
theorem dX9_carry_26 : decode cX9_carry 26 = .ok (.bipush 6, 2) := by decide +kernel
theorem dX9_carry_28 : decode cX9_carry 28 = .ok (.invokevirtual 56, 3) := by decide +kernel
theorem dX9_carry_31 : decode cX9_carry 31 = .ok (.aload_n 0, 1) := by decide +kernel
theorem dX9_carry_32 : decode cX9_carry 32 = .ok (.aload_n 0, 1) := by decide +kernel
theorem dX9_carry_33 : decode cX9_carry 33 = .ok (.getfield 60, 3) := by decide +kernel
theorem dX9_carry_36 : decode cX9_carry 36 = .ok (.invokevirtual 63, 3) := by decide +kernel
theorem dX9_carry_39 : decode cX9_carry 39 = .ok (.aload_n 0, 1) := by decide +kernel
theorem dX9_carry_40 : decode cX9_carry 40 = .ok (.iload_n 1, 1) := by decide +kernel
theorem dX9_carry_41 : decode cX9_carry 41 = .ok (.i2l, 1) := by decide +kernel
theorem dX9_carry_42 : decode cX9_carry 42 = .ok (.invokevirtual 63, 3) := by decide +kernel
theorem dX9_carry_45 : decode cX9_carry 45 = .ok (.aload_n 0, 1) := by decide +kernel
theorem dX9_carry_46 : decode cX9_carry 46 = .ok (.iload_n 2, 1) := by decide +kernel
theorem dX9_carry_47 : decode cX9_carry 47 = .ok (.i2l, 1) := by decide +kernel
theorem dX9_carry_48 : decode cX9_carry 48 = .ok (.invokevirtual 63, 3) := by decide +kernel
theorem dX9_carry_51 : decode cX9_carry 51 = .ok (.aload_n 0, 1) := by decide +kernel
theorem dX9_carry_52 : decode cX9_carry 52 = .ok (.iload 5, 2) := by decide +kernel
theorem dX9_carry_54 : decode cX9_carry 54 = .ok (.i2l, 1) := by decide +kernel
theorem dX9_carry_55 : decode cX9_carry 55 = .ok (.invokevirtual 63, 3) := by decide +kernel
theorem dX9_carry_58 : decode cX9_carry 58 = .ok (.aload_n 0, 1) := by decide +kernel
theorem dX9_carry_59 : decode cX9_carry 59 = .ok (.lload 6, 2) := by decide +kernel
theorem dX9_carry_61 : decode cX9_carry 61 = .ok (.invokevirtual 63, 3) := by decide +kernel
theorem dX9_carry_64 : decode cX9_carry 64 = .ok (.aload_n 0, 1) := by decide +kernel
theorem dX9_carry_65 : decode cX9_carry 65 = .ok (.lload 8, 2) := by decide +kernel
theorem dX9_carry_67 : decode cX9_carry 67 = .ok (.invokevirtual 63, 3) := by decide +kernel
theorem dX9_carry_70 : decode cX9_carry 70 = .ok (.iinc 5 1, 3) := by decide +kernel
theorem dX9_carry_73 : decode cX9_carry 73 = .ok (.goto (-70), 3) := by decide +kernel
theorem dX9_carry_76 : decode cX9_carry 76 = .ok (.return_, 1) := by decide +kernel
set_option maxRecDepth 20000 in
theorem ggX9_place_X9_take : GoodIn wsX9_place wsX9_take := goodIn_r _ [7, 8, 9, 25, 26, 27, 28, 29, 30, 31, 32, 33, 34, 35, 36, 37, 38, 39, 40, 41, 42, 43, 44, 45] (by decide +kernel) (by decide +kernel)
set_option maxRecDepth 20000 in
theorem gX9_place_X9_take : GoodIn wsX9_place (wsV RX9 56 RX9 yX9_take wsX9_take) := goodIn_app (goodIn_of _ (by decide +kernel)) ggX9_place_X9_take
set_option maxRecDepth 20000 in
theorem ggX9_place_X9_put : GoodIn wsX9_place wsX9_put := goodIn_r _ [13, 8, 9, 14, 15, 6, 16, 17, 18, 25, 26, 27, 28, 29, 30, 31, 32, 33, 34, 35, 36, 37, 38, 39, 40, 41, 42, 43, 44, 45] (by decide +kernel) (by decide +kernel)
set_option maxRecDepth 20000 in
theorem gX9_place_X9_put : GoodIn wsX9_place (wsV RX9 63 RX9 yX9_put wsX9_put) := goodIn_app (goodIn_of _ (by decide +kernel)) ggX9_place_X9_put
set_option maxRecDepth 20000 in
theorem ggX9_place_X9_carry : GoodIn wsX9_place wsX9_carry := goodIn_r _ [22, 8, 9, 23, 24, 3, 4, 5, 6, 7, 10, 11, 12, 13, 14, 15, 16, 17, 18, 25, 26, 27, 28, 29, 30, 31, 32, 33, 34, 35, 36, 37, 38, 39, 40, 41, 42, 43, 44, 45] (by decide +kernel) (by decide +kernel)
set_option maxRecDepth 20000 in
theorem gX9_place_X9_carry : GoodIn wsX9_place (wsV RX9 73 RX9 yX9_carry wsX9_carry) := goodIn_app (goodIn_of _ (by decide +kernel)) ggX9_place_X9_carry
theorem dX9_place_0 : decode cX9_place 0 = .ok (.aload_n 0, 1) := by decide +kernel
theorem dX9_place_1 : decode cX9_place 1 = .ok (.lconst 1, 1) := by decide +kernel
theorem dX9_place_2 : decode cX9_place 2 = .ok (.iconst 4, 1) := by decide +kernel
theorem dX9_place_3 : decode cX9_place 3 = .ok (.invokevirtual 56, 3) := by decide +kernel
theorem dX9_place_6 : decode cX9_place 6 = .ok (.aload_n 0, 1) := by decide +kernel
theorem dX9_place_7 : decode cX9_place 7 = .ok (.aload_n 0, 1) := by decide +kernel
theorem dX9_place_8 : decode cX9_place 8 = .ok (.getfield 67, 3) := by decide +kernel
theorem dX9_place_11 : decode cX9_place 11 = .ok (.invokevirtual 63, 3) := by decide +kernel
theorem dX9_place_14 : decode cX9_place 14 = .ok (.aload_n 0, 1) := by decide +kernel
theorem dX9_place_15 : decode cX9_place 15 = .ok (.aload_n 0, 1) := by decide +kernel
theorem dX9_place_16 : decode cX9_place 16 = .ok (.getfield 70, 3) := by decide +kernel
theorem dX9_place_19 : decode cX9_place 19 = .ok (.invokevirtual 63, 3) := by decide +kernel
theorem dX9_place_22 : decode cX9_place 22 = .ok (.aload_n 0, 1) := by decide +kernel
theorem dX9_place_23 : decode cX9_place 23 = .ok (.iload_n 1, 1) := by decide +kernel
theorem dX9_place_24 : decode cX9_place 24 = .ok (.i2l, 1) := by decide +kernel
theorem dX9_place_25 : decode cX9_place 25 = .ok (.invokevirtual 63, 3) := by decide +kernel
theorem dX9_place_28 : decode cX9_place 28 = .ok (.aload_n 0, 1) := by decide +kernel
theorem dX9_place_29 : decode cX9_place 29 = .ok (.iload_n 2, 1) := by decide +kernel
theorem dX9_place_30 : decode cX9_place 30 = .ok (.i2l, 1) := by decide +kernel
theorem dX9_place_31 : decode cX9_place 31 = .ok (.invokevirtual 63, 3) := by decide +kernel
theorem dX9_place_34 : decode cX9_place 34 = .ok (.aload_n 0, 1) := by decide +kernel
theorem dX9_place_35 : decode cX9_place 35 = .ok (.iload_n 1, 1) := by decide +kernel
theorem dX9_place_36 : decode cX9_place 36 = .ok (.iload_n 2, 1) := by decide +kernel
theorem dX9_place_37 : decode cX9_place 37 = .ok (.iconst 0, 1) := by decide +kernel
theorem dX9_place_38 : decode cX9_place 38 = .ok (.iload_n 3, 1) := by decide +kernel
theorem dX9_place_39 : decode cX9_place 39 = .ok (.invokevirtual 73, 3) := by decide +kernel
theorem dX9_place_42 : decode cX9_place 42 = .ok (.return_, 1) := by decide +kernel
set_option maxRecDepth 20000 in
theorem ggX9_gather_X9_take : GoodIn wsX9_gather wsX9_take := goodIn_r _ [9, 10, 11, 21, 22, 23, 24, 25, 26, 27, 28, 29, 30, 31, 32, 33, 34, 35, 36, 37, 38, 39, 40, 41] (by decide +kernel) (by decide +kernel)
set_option maxRecDepth 20000 in
theorem gX9_gather_X9_take : GoodIn wsX9_gather (wsV RX9 56 RX9 yX9_take wsX9_take) := goodIn_app (goodIn_of _ (by decide +kernel)) ggX9_gather_X9_take
set_option maxRecDepth 20000 in
theorem ggX9_gather_X9_put : GoodIn wsX9_gather wsX9_put := goodIn_r _ [15, 10, 11, 16, 17, 8, 18, 19, 20, 21, 22, 23, 24, 25, 26, 27, 28, 29, 30, 31, 32, 33, 34, 35, 36, 37, 38, 39, 40, 41] (by decide +kernel) (by decide +kernel)
set_option maxRecDepth 20000 in
theorem gX9_gather_X9_put : GoodIn wsX9_gather (wsV RX9 63 RX9 yX9_put wsX9_put) := goodIn_app (goodIn_of _ (by decide +kernel)) ggX9_gather_X9_put
theorem dX9_gather_0 : decode cX9_gather 0 = .ok (.aload_n 0, 1) := by decide +kernel
theorem dX9_gather_1 : decode cX9_gather 1 = .ok (.ldc2_w 77, 3) := by decide +kernel
theorem dX9_gather_4 : decode cX9_gather 4 = .ok (.bipush 72, 2) := by decide +kernel
theorem dX9_gather_6 : decode cX9_gather 6 = .ok (.invokevirtual 56, 3) := by decide +kernel
theorem dX9_gather_9 : decode cX9_gather 9 = .ok (.aload_n 0, 1) := by decide +kernel
theorem dX9_gather_10 : decode cX9_gather 10 = .ok (.aload_n 0, 1) := by decide +kernel
theorem dX9_gather_11 : decode cX9_gather 11 = .ok (.getfield 60, 3) := by decide +kernel
theorem dX9_gather_14 : decode cX9_gather 14 = .ok (.invokevirtual 63, 3) := by decide +kernel
theorem dX9_gather_17 : decode cX9_gather 17 = .ok (.aload_n 0, 1) := by decide +kernel
theorem dX9_gather_18 : decode cX9_gather 18 = .ok (.iload_n 1, 1) := by decide +kernel
theorem dX9_gather_19 : decode cX9_gather 19 = .ok (.i2l, 1) := by decide +kernel
theorem dX9_gather_20 : decode cX9_gather 20 = .ok (.invokevirtual 63, 3) := by decide +kernel
theorem dX9_gather_23 : decode cX9_gather 23 = .ok (.iconst 0, 1) := by decide +kernel
theorem dX9_gather_24 : decode cX9_gather 24 = .ok (.istore_n 2, 1) := by decide +kernel
theorem dX9_gather_25 : decode cX9_gather 25 = .ok (.iload_n 2, 1) := by decide +kernel
theorem dX9_gather_26 : decode cX9_gather 26 = .ok (.bipush 35, 2) := by decide +kernel
theorem dX9_gather_28 : decode cX9_gather 28 = .ok (.if_icmp .ge 29, 3) := by decide +kernel
theorem dX9_gather_31 : decode cX9_gather 31 = .ok (.aload_n 0, 1) := by decide +kernel
theorem dX9_gather_32 : decode cX9_gather 32 = .ok (.aload_n 0, 1) := by decide +kernel
theorem dX9_gather_33 : decode cX9_gather 33 = .ok (.getfield 29, 3) := by decide +kernel
theorem dX9_gather_36 : decode cX9_gather 36 = .ok (.iload_n 2, 1) := by decide +kernel
theorem dX9_gather_37 : decode cX9_gather 37 = .ok (.laload, 1) := by decide +kernel
theorem dX9_gather_38 : decode cX9_gather 38 = .ok (.invokevirtual 63, 3) := by decide +kernel
theorem dX9_gather_41 : decode cX9_gather 41 = .ok (.aload_n 0, 1) := by decide +kernel
theorem dX9_gather_42 : decode cX9_gather 42 = .ok (.aload_n 0, 1) := by decide +kernel
theorem dX9_gather_43 : decode cX9_gather 43 = .ok (.getfield 32, 3) := by decide +kernel
theorem dX9_gather_46 : decode cX9_gather 46 = .ok (.iload_n 2, 1) := by decide +kernel
theorem dX9_gather_47 : decode cX9_gather 47 = .ok (.laload, 1) := by decide +kernel
theorem dX9_gather_48 : decode cX9_gather 48 = .ok (.invokevirtual 63, 3) := by decide +kernel
theorem dX9_gather_51 : decode cX9_gather 51 = .ok (.iinc 2 1, 3) := by decide +kernel
theorem dX9_gather_54 : decode cX9_gather 54 = .ok (.goto (-29), 3) := by decide +kernel
theorem dX9_gather_57 : decode cX9_gather 57 = .ok (.return_, 1) := by decide +kernel
set_option maxRecDepth 20000 in
theorem ggX9_join_X9_take : GoodIn wsX9_join wsX9_take := goodIn_r _ [7, 8, 9, 19, 20, 21, 22, 23, 24, 25, 26, 27, 28, 29, 30, 31, 32, 33, 34, 35, 36, 37, 38, 39] (by decide +kernel) (by decide +kernel)
set_option maxRecDepth 20000 in
theorem gX9_join_X9_take : GoodIn wsX9_join (wsV RX9 56 RX9 yX9_take wsX9_take) := goodIn_app (goodIn_of _ (by decide +kernel)) ggX9_join_X9_take
set_option maxRecDepth 20000 in
theorem ggX9_join_X9_put : GoodIn wsX9_join wsX9_put := goodIn_r _ [13, 8, 9, 14, 15, 6, 16, 17, 18, 19, 20, 21, 22, 23, 24, 25, 26, 27, 28, 29, 30, 31, 32, 33, 34, 35, 36, 37, 38, 39] (by decide +kernel) (by decide +kernel)
set_option maxRecDepth 20000 in
theorem gX9_join_X9_put : GoodIn wsX9_join (wsV RX9 63 RX9 yX9_put wsX9_put) := goodIn_app (goodIn_of _ (by decide +kernel)) ggX9_join_X9_put
theorem dX9_join_0 : decode cX9_join 0 = .ok (.aload_n 0, 1) := by decide +kernel
theorem dX9_join_1 : decode cX9_join 1 = .ok (.ldc2_w 79, 3) := by decide +kernel
theorem dX9_join_4 : decode cX9_join 4 = .ok (.bipush 7, 2) := by decide +kernel
theorem dX9_join_6 : decode cX9_join 6 = .ok (.invokevirtual 56, 3) := by decide +kernel
theorem dX9_join_9 : decode cX9_join 9 = .ok (.aload_n 0, 1) := by decide +kernel
theorem dX9_join_10 : decode cX9_join 10 = .ok (.aload_n 0, 1) := by decide +kernel
theorem dX9_join_11 : decode cX9_join 11 = .ok (.getfield 60, 3) := by decide +kernel
theorem dX9_join_14 : decode cX9_join 14 = .ok (.invokevirtual 63, 3) := by decide +kernel
theorem dX9_join_17 : decode cX9_join 17 = .ok (.aload_n 0, 1) := by decide +kernel
theorem dX9_join_18 : decode cX9_join 18 = .ok (.iload_n 1, 1) := by decide +kernel
theorem dX9_join_19 : decode cX9_join 19 = .ok (.i2l, 1) := by decide +kernel
theorem dX9_join_20 : decode cX9_join 20 = .ok (.invokevirtual 63, 3) := by decide +kernel
theorem dX9_join_23 : decode cX9_join 23 = .ok (.aload_n 0, 1) := by decide +kernel
theorem dX9_join_24 : decode cX9_join 24 = .ok (.iload_n 2, 1) := by decide +kernel
theorem dX9_join_25 : decode cX9_join 25 = .ok (.i2l, 1) := by decide +kernel
theorem dX9_join_26 : decode cX9_join 26 = .ok (.invokevirtual 63, 3) := by decide +kernel
theorem dX9_join_29 : decode cX9_join 29 = .ok (.aload_n 0, 1) := by decide +kernel
theorem dX9_join_30 : decode cX9_join 30 = .ok (.lload_n 3, 1) := by decide +kernel
theorem dX9_join_31 : decode cX9_join 31 = .ok (.invokevirtual 63, 3) := by decide +kernel
theorem dX9_join_34 : decode cX9_join 34 = .ok (.aload_n 0, 1) := by decide +kernel
theorem dX9_join_35 : decode cX9_join 35 = .ok (.lload 5, 2) := by decide +kernel
theorem dX9_join_37 : decode cX9_join 37 = .ok (.invokevirtual 63, 3) := by decide +kernel
theorem dX9_join_40 : decode cX9_join 40 = .ok (.aload_n 0, 1) := by decide +kernel
theorem dX9_join_41 : decode cX9_join 41 = .ok (.lload 7, 2) := by decide +kernel
theorem dX9_join_43 : decode cX9_join 43 = .ok (.invokevirtual 63, 3) := by decide +kernel
theorem dX9_join_46 : decode cX9_join 46 = .ok (.aload_n 0, 1) := by decide +kernel
theorem dX9_join_47 : decode cX9_join 47 = .ok (.lload 9, 2) := by decide +kernel
theorem dX9_join_49 : decode cX9_join 49 = .ok (.invokevirtual 63, 3) := by decide +kernel
theorem dX9_join_52 : decode cX9_join 52 = .ok (.return_, 1) := by decide +kernel
theorem dX9_at_0 : decode cX9_at 0 = .ok (.bipush 32, 2) := by decide +kernel
theorem dX9_at_2 : decode cX9_at 2 = .ok (.bipush 32, 2) := by decide +kernel
theorem dX9_at_4 : decode cX9_at 4 = .ok (.iload_n 0, 1) := by decide +kernel
theorem dX9_at_5 : decode cX9_at 5 = .ok (.ishr, 1) := by decide +kernel
theorem dX9_at_6 : decode cX9_at 6 = .ok (.isub, 1) := by decide +kernel
theorem dX9_at_7 : decode cX9_at 7 = .ok (.iload_n 1, 1) := by decide +kernel
theorem dX9_at_8 : decode cX9_at 8 = .ok (.iadd, 1) := by decide +kernel
theorem dX9_at_9 : decode cX9_at 9 = .ok (.ireturn, 1) := by decide +kernel
theorem dX9_leaves_0 : decode cX9_leaves 0 = .ok (.iconst 1, 1) := by decide +kernel
theorem dX9_leaves_1 : decode cX9_leaves 1 = .ok (.aload_n 0, 1) := by decide +kernel
theorem dX9_leaves_2 : decode cX9_leaves 2 = .ok (.getfield 7, 3) := by decide +kernel
theorem dX9_leaves_5 : decode cX9_leaves 5 = .ok (.ishl, 1) := by decide +kernel
theorem dX9_leaves_6 : decode cX9_leaves 6 = .ok (.ireturn, 1) := by decide +kernel
set_option maxRecDepth 20000 in
theorem ggX9_isMade_X9_leaves : GoodIn wsX9_isMade wsX9_leaves := goodIn_r _ [7, 1, 8, 9, 10, 11, 12, 13, 14, 15, 16, 17, 18, 19, 20, 21, 22, 23, 24, 25, 26, 27, 28] (by decide +kernel) (by decide +kernel)
set_option maxRecDepth 20000 in
theorem gX9_isMade_X9_leaves : GoodIn wsX9_isMade (wsV RX9 81 RX9 yX9_leaves wsX9_leaves) := goodIn_app (goodIn_of _ (by decide +kernel)) ggX9_isMade_X9_leaves
theorem dX9_isMade_0 : decode cX9_isMade 0 = .ok (.iload_n 1, 1) := by decide +kernel
theorem dX9_isMade_1 : decode cX9_isMade 1 = .ok (.ifCond .lt 41, 3) := by decide +kernel
theorem dX9_isMade_4 : decode cX9_isMade 4 = .ok (.iload_n 1, 1) := by decide +kernel
theorem dX9_isMade_5 : decode cX9_isMade 5 = .ok (.aload_n 0, 1) := by decide +kernel
theorem dX9_isMade_6 : decode cX9_isMade 6 = .ok (.getfield 7, 3) := by decide +kernel
theorem dX9_isMade_9 : decode cX9_isMade 9 = .ok (.if_icmp .gt 33, 3) := by decide +kernel
theorem dX9_isMade_12 : decode cX9_isMade 12 = .ok (.iload_n 2, 1) := by decide +kernel
theorem dX9_isMade_13 : decode cX9_isMade 13 = .ok (.ifCond .lt 29, 3) := by decide +kernel
theorem dX9_isMade_16 : decode cX9_isMade 16 = .ok (.iload_n 2, 1) := by decide +kernel
theorem dX9_isMade_17 : decode cX9_isMade 17 = .ok (.aload_n 0, 1) := by decide +kernel
theorem dX9_isMade_18 : decode cX9_isMade 18 = .ok (.invokevirtual 81, 3) := by decide +kernel
theorem dX9_isMade_21 : decode cX9_isMade 21 = .ok (.iload_n 1, 1) := by decide +kernel
theorem dX9_isMade_22 : decode cX9_isMade 22 = .ok (.ishr, 1) := by decide +kernel
theorem dX9_isMade_23 : decode cX9_isMade 23 = .ok (.if_icmp .ge 19, 3) := by decide +kernel
theorem dX9_isMade_26 : decode cX9_isMade 26 = .ok (.iload_n 2, 1) := by decide +kernel
theorem dX9_isMade_27 : decode cX9_isMade 27 = .ok (.iconst 1, 1) := by decide +kernel
theorem dX9_isMade_28 : decode cX9_isMade 28 = .ok (.iadd, 1) := by decide +kernel
theorem dX9_isMade_29 : decode cX9_isMade 29 = .ok (.iload_n 1, 1) := by decide +kernel
theorem dX9_isMade_30 : decode cX9_isMade 30 = .ok (.ishl, 1) := by decide +kernel
theorem dX9_isMade_31 : decode cX9_isMade 31 = .ok (.aload_n 0, 1) := by decide +kernel
theorem dX9_isMade_32 : decode cX9_isMade 32 = .ok (.getfield 85, 3) := by decide +kernel
theorem dX9_isMade_35 : decode cX9_isMade 35 = .ok (.if_icmp .gt 7, 3) := by decide +kernel
theorem dX9_isMade_38 : decode cX9_isMade 38 = .ok (.iconst 1, 1) := by decide +kernel
theorem dX9_isMade_39 : decode cX9_isMade 39 = .ok (.goto 4, 3) := by decide +kernel
theorem dX9_isMade_42 : decode cX9_isMade 42 = .ok (.iconst 0, 1) := by decide +kernel
theorem dX9_isMade_43 : decode cX9_isMade 43 = .ok (.ireturn, 1) := by decide +kernel
set_option maxRecDepth 20000 in
theorem ggX9_hasRoot_X9_leaves : GoodIn wsX9_hasRoot wsX9_leaves := goodIn_r _ [6, 7, 8, 9, 10, 11, 12, 13, 14, 15, 16, 17, 18, 19, 20, 21, 22, 23, 24, 25, 26, 27, 28] (by decide +kernel) (by decide +kernel)
set_option maxRecDepth 20000 in
theorem gX9_hasRoot_X9_leaves : GoodIn wsX9_hasRoot (wsV RX9 81 RX9 yX9_leaves wsX9_leaves) := goodIn_app (goodIn_of _ (by decide +kernel)) ggX9_hasRoot_X9_leaves
theorem dX9_hasRoot_0 : decode cX9_hasRoot 0 = .ok (.aload_n 0, 1) := by decide +kernel
theorem dX9_hasRoot_1 : decode cX9_hasRoot 1 = .ok (.getfield 85, 3) := by decide +kernel
theorem dX9_hasRoot_4 : decode cX9_hasRoot 4 = .ok (.aload_n 0, 1) := by decide +kernel
theorem dX9_hasRoot_5 : decode cX9_hasRoot 5 = .ok (.invokevirtual 81, 3) := by decide +kernel
theorem dX9_hasRoot_8 : decode cX9_hasRoot 8 = .ok (.if_icmp .ne 7, 3) := by decide +kernel
theorem dX9_hasRoot_11 : decode cX9_hasRoot 11 = .ok (.iconst 1, 1) := by decide +kernel
theorem dX9_hasRoot_12 : decode cX9_hasRoot 12 = .ok (.goto 4, 3) := by decide +kernel
theorem dX9_hasRoot_15 : decode cX9_hasRoot 15 = .ok (.iconst 0, 1) := by decide +kernel
theorem dX9_hasRoot_16 : decode cX9_hasRoot 16 = .ok (.ireturn, 1) := by decide +kernel
theorem dX9_begin_0 : decode cX9_begin 0 = .ok (.iload 7, 2) := by decide +kernel
theorem dX9_begin_2 : decode cX9_begin 2 = .ok (.iconst 1, 1) := by decide +kernel
theorem dX9_begin_3 : decode cX9_begin 3 = .ok (.if_icmp .lt 9, 3) := by decide +kernel
theorem dX9_begin_6 : decode cX9_begin 6 = .ok (.iload 7, 2) := by decide +kernel
theorem dX9_begin_8 : decode cX9_begin 8 = .ok (.iconst 4, 1) := by decide +kernel
theorem dX9_begin_9 : decode cX9_begin 9 = .ok (.if_icmp .le 5, 3) := by decide +kernel
theorem dX9_begin_12 : decode cX9_begin 12 = .ok (.iconst 0, 1) := by decide +kernel
theorem dX9_begin_13 : decode cX9_begin 13 = .ok (.ireturn, 1) := by decide +kernel
theorem dX9_begin_14 : decode cX9_begin 14 = .ok (.aload_n 0, 1) := by decide +kernel
theorem dX9_begin_15 : decode cX9_begin 15 = .ok (.lload_n 1, 1) := by decide +kernel
theorem dX9_begin_16 : decode cX9_begin 16 = .ok (.putfield 67, 3) := by decide +kernel
theorem dX9_begin_19 : decode cX9_begin 19 = .ok (.aload_n 0, 1) := by decide +kernel
theorem dX9_begin_20 : decode cX9_begin 20 = .ok (.lload_n 3, 1) := by decide +kernel
theorem dX9_begin_21 : decode cX9_begin 21 = .ok (.putfield 70, 3) := by decide +kernel
theorem dX9_begin_24 : decode cX9_begin 24 = .ok (.aload_n 0, 1) := by decide +kernel
theorem dX9_begin_25 : decode cX9_begin 25 = .ok (.lload 5, 2) := by decide +kernel
theorem dX9_begin_27 : decode cX9_begin 27 = .ok (.putfield 60, 3) := by decide +kernel
theorem dX9_begin_30 : decode cX9_begin 30 = .ok (.aload_n 0, 1) := by decide +kernel
theorem dX9_begin_31 : decode cX9_begin 31 = .ok (.iload 7, 2) := by decide +kernel
theorem dX9_begin_33 : decode cX9_begin 33 = .ok (.putfield 7, 3) := by decide +kernel
theorem dX9_begin_36 : decode cX9_begin 36 = .ok (.aload_n 0, 1) := by decide +kernel
theorem dX9_begin_37 : decode cX9_begin 37 = .ok (.iconst 0, 1) := by decide +kernel
theorem dX9_begin_38 : decode cX9_begin 38 = .ok (.putfield 85, 3) := by decide +kernel
theorem dX9_begin_41 : decode cX9_begin 41 = .ok (.aload_n 0, 1) := by decide +kernel
theorem dX9_begin_42 : decode cX9_begin 42 = .ok (.iconst 0, 1) := by decide +kernel
theorem dX9_begin_43 : decode cX9_begin 43 = .ok (.putfield 88, 3) := by decide +kernel
theorem dX9_begin_46 : decode cX9_begin 46 = .ok (.aload_n 0, 1) := by decide +kernel
theorem dX9_begin_47 : decode cX9_begin 47 = .ok (.iconst 0, 1) := by decide +kernel
theorem dX9_begin_48 : decode cX9_begin 48 = .ok (.putfield 91, 3) := by decide +kernel
theorem dX9_begin_51 : decode cX9_begin 51 = .ok (.iconst 1, 1) := by decide +kernel
theorem dX9_begin_52 : decode cX9_begin 52 = .ok (.ireturn, 1) := by decide +kernel
set_option maxRecDepth 20000 in
theorem ggX9_grow_X9_leaves : GoodIn wsX9_grow wsX9_leaves := goodIn_r _ [13, 8, 56, 57, 58, 59, 60, 61, 62, 63, 64, 65, 66, 67, 68, 69, 70, 71, 72, 73, 74, 75, 76] (by decide +kernel) (by decide +kernel)
set_option maxRecDepth 20000 in
theorem gX9_grow_X9_leaves : GoodIn wsX9_grow (wsV RX9 81 RX9 yX9_leaves wsX9_leaves) := goodIn_app (goodIn_of _ (by decide +kernel)) ggX9_grow_X9_leaves
set_option maxRecDepth 20000 in
theorem ggX9_grow_X9_place : GoodIn wsX9_grow wsX9_place := goodIn_r _ [17, 18, 19, 20, 21, 22, 12, 23, 3, 5, 24, 25, 26, 27, 28, 29, 30, 31, 32, 33, 34, 35, 36, 37, 38, 56, 57, 58, 59, 60, 61, 62, 63, 64, 65, 66, 67, 68, 69, 70, 71, 72, 73, 74, 75, 76] (by decide +kernel) (by decide +kernel)
set_option maxRecDepth 20000 in
theorem gX9_grow_X9_place : GoodIn wsX9_grow (wsV RX9 95 RX9 yX9_place wsX9_place) := goodIn_app (goodIn_of _ (by decide +kernel)) ggX9_grow_X9_place
set_option maxRecDepth 20000 in
theorem ggX9_grow_X9_gather : GoodIn wsX9_grow wsX9_gather := goodIn_r _ [42, 43, 38, 2, 4, 20, 21, 22, 12, 23, 3, 5, 24, 25, 26, 27, 28, 29, 30, 31, 32, 56, 57, 58, 59, 60, 61, 62, 63, 64, 65, 66, 67, 68, 69, 70, 71, 72, 73, 74, 75, 76] (by decide +kernel) (by decide +kernel)
set_option maxRecDepth 20000 in
theorem gX9_grow_X9_gather : GoodIn wsX9_grow (wsV RX9 99 RX9 yX9_gather wsX9_gather) := goodIn_app (goodIn_of _ (by decide +kernel)) ggX9_grow_X9_gather
set_option maxRecDepth 20000 in
theorem ggX9_grow_X9_isMade : GoodIn wsX9_grow wsX9_isMade := goodIn_r _ [47, 8, 1, 9, 10, 11, 12, 13, 56, 57, 58, 59, 60, 61, 62, 63, 64, 65, 66, 67, 68, 69, 70, 71, 72, 73, 74, 75, 76] (by decide +kernel) (by decide +kernel)
set_option maxRecDepth 20000 in
theorem gX9_grow_X9_isMade : GoodIn wsX9_grow (wsV RX9 103 RX9 yX9_isMade wsX9_isMade) := goodIn_app (goodIn_of _ (by decide +kernel)) ggX9_grow_X9_isMade
set_option maxRecDepth 20000 in
theorem ggX9_grow_X9_at : GoodIn wsX9_grow wsX9_at := goodIn_r _ [50] (by decide +kernel) (by decide +kernel)
set_option maxRecDepth 20000 in
theorem gX9_grow_X9_at : GoodIn wsX9_grow (va_wsS RX9 107 yX9_at wsX9_at) := goodIn_app (goodIn_of _ (by decide +kernel)) ggX9_grow_X9_at
set_option maxRecDepth 20000 in
theorem ggX9_grow_X9_join : GoodIn wsX9_grow wsX9_join := goodIn_r _ [54, 55, 38, 20, 21, 22, 12, 23, 3, 5, 24, 25, 26, 27, 28, 29, 30, 31, 32, 56, 57, 58, 59, 60, 61, 62, 63, 64, 65, 66, 67, 68, 69, 70, 71, 72, 73, 74, 75, 76] (by decide +kernel) (by decide +kernel)
set_option maxRecDepth 20000 in
theorem gX9_grow_X9_join : GoodIn wsX9_grow (wsV RX9 111 RX9 yX9_join wsX9_join) := goodIn_app (goodIn_of _ (by decide +kernel)) ggX9_grow_X9_join
theorem dX9_grow_0 : decode cX9_grow 0 = .ok (.iload_n 1, 1) := by decide +kernel
theorem dX9_grow_1 : decode cX9_grow 1 = .ok (.iconst 1, 1) := by decide +kernel
theorem dX9_grow_2 : decode cX9_grow 2 = .ok (.if_icmp .ge 5, 3) := by decide +kernel
theorem dX9_grow_5 : decode cX9_grow 5 = .ok (.iconst (-1), 1) := by decide +kernel
theorem dX9_grow_6 : decode cX9_grow 6 = .ok (.ireturn, 1) := by decide +kernel
theorem dX9_grow_7 : decode cX9_grow 7 = .ok (.aload_n 0, 1) := by decide +kernel
theorem dX9_grow_8 : decode cX9_grow 8 = .ok (.invokevirtual 81, 3) := by decide +kernel
theorem dX9_grow_11 : decode cX9_grow 11 = .ok (.aload_n 0, 1) := by decide +kernel
theorem dX9_grow_12 : decode cX9_grow 12 = .ok (.getfield 85, 3) := by decide +kernel
theorem dX9_grow_15 : decode cX9_grow 15 = .ok (.isub, 1) := by decide +kernel
theorem dX9_grow_16 : decode cX9_grow 16 = .ok (.istore_n 2, 1) := by decide +kernel
theorem dX9_grow_17 : decode cX9_grow 17 = .ok (.iload_n 1, 1) := by decide +kernel
theorem dX9_grow_18 : decode cX9_grow 18 = .ok (.iload_n 2, 1) := by decide +kernel
theorem dX9_grow_19 : decode cX9_grow 19 = .ok (.if_icmp .ge 7, 3) := by decide +kernel
theorem dX9_grow_22 : decode cX9_grow 22 = .ok (.iload_n 1, 1) := by decide +kernel
theorem dX9_grow_23 : decode cX9_grow 23 = .ok (.goto 4, 3) := by decide +kernel
theorem dX9_grow_26 : decode cX9_grow 26 = .ok (.iload_n 2, 1) := by decide +kernel
theorem dX9_grow_27 : decode cX9_grow 27 = .ok (.istore_n 3, 1) := by decide +kernel
theorem dX9_grow_28 : decode cX9_grow 28 = .ok (.aload_n 0, 1) := by decide +kernel
theorem dX9_grow_29 : decode cX9_grow 29 = .ok (.getfield 85, 3) := by decide +kernel
theorem dX9_grow_32 : decode cX9_grow 32 = .ok (.istore 4, 2) := by decide +kernel
theorem dX9_grow_34 : decode cX9_grow 34 = .ok (.iload 4, 2) := by decide +kernel
theorem dX9_grow_36 : decode cX9_grow 36 = .ok (.aload_n 0, 1) := by decide +kernel
theorem dX9_grow_37 : decode cX9_grow 37 = .ok (.getfield 85, 3) := by decide +kernel
theorem dX9_grow_40 : decode cX9_grow 40 = .ok (.iload_n 3, 1) := by decide +kernel
theorem dX9_grow_41 : decode cX9_grow 41 = .ok (.iadd, 1) := by decide +kernel
theorem dX9_grow_42 : decode cX9_grow 42 = .ok (.if_icmp .ge 85, 3) := by decide +kernel
theorem dX9_grow_45 : decode cX9_grow 45 = .ok (.iconst 0, 1) := by decide +kernel
theorem dX9_grow_46 : decode cX9_grow 46 = .ok (.istore 5, 2) := by decide +kernel
theorem dX9_grow_48 : decode cX9_grow 48 = .ok (.iload 5, 2) := by decide +kernel
theorem dX9_grow_50 : decode cX9_grow 50 = .ok (.bipush 35, 2) := by decide +kernel
theorem dX9_grow_52 : decode cX9_grow 52 = .ok (.if_icmp .ge 41, 3) := by decide +kernel
theorem dX9_grow_55 : decode cX9_grow 55 = .ok (.aload_n 0, 1) := by decide +kernel
theorem dX9_grow_56 : decode cX9_grow 56 = .ok (.iload 4, 2) := by decide +kernel
theorem dX9_grow_58 : decode cX9_grow 58 = .ok (.iload 5, 2) := by decide +kernel
theorem dX9_grow_60 : decode cX9_grow 60 = .ok (.bipush 15, 2) := by decide +kernel
theorem dX9_grow_62 : decode cX9_grow 62 = .ok (.invokevirtual 95, 3) := by decide +kernel
theorem dX9_grow_65 : decode cX9_grow 65 = .ok (.aload_n 0, 1) := by decide +kernel
theorem dX9_grow_66 : decode cX9_grow 66 = .ok (.getfield 29, 3) := by decide +kernel
theorem dX9_grow_69 : decode cX9_grow 69 = .ok (.iload 5, 2) := by decide +kernel
theorem dX9_grow_71 : decode cX9_grow 71 = .ok (.aload_n 0, 1) := by decide +kernel
theorem dX9_grow_72 : decode cX9_grow 72 = .ok (.getfield 43, 3) := by decide +kernel
theorem dX9_grow_75 : decode cX9_grow 75 = .ok (.lastore, 1) := by decide +kernel
theorem dX9_grow_76 : decode cX9_grow 76 = .ok (.aload_n 0, 1) := by decide +kernel
theorem dX9_grow_77 : decode cX9_grow 77 = .ok (.getfield 32, 3) := by decide +kernel
theorem dX9_grow_80 : decode cX9_grow 80 = .ok (.iload 5, 2) := by decide +kernel
theorem dX9_grow_82 : decode cX9_grow 82 = .ok (.aload_n 0, 1) := by decide +kernel
theorem dX9_grow_83 : decode cX9_grow 83 = .ok (.getfield 47, 3) := by decide +kernel
theorem dX9_grow_86 : decode cX9_grow 86 = .ok (.lastore, 1) := by decide +kernel
theorem dX9_grow_87 : decode cX9_grow 87 = .ok (.iinc 5 1, 3) := by decide +kernel
theorem dX9_grow_90 : decode cX9_grow 90 = .ok (.goto (-42), 3) := by decide +kernel
theorem dX9_grow_93 : decode cX9_grow 93 = .ok (.aload_n 0, 1) := by decide +kernel
theorem dX9_grow_94 : decode cX9_grow 94 = .ok (.iload 4, 2) := by decide +kernel
theorem dX9_grow_96 : decode cX9_grow 96 = .ok (.invokevirtual 99, 3) := by decide +kernel
theorem dX9_grow_99 : decode cX9_grow 99 = .ok (.aload_n 0, 1) := by decide +kernel
theorem dX9_grow_100 : decode cX9_grow 100 = .ok (.getfield 13, 3) := by decide +kernel
theorem dX9_grow_103 : decode cX9_grow 103 = .ok (.iload 4, 2) := by decide +kernel
theorem dX9_grow_105 : decode cX9_grow 105 = .ok (.aload_n 0, 1) := by decide +kernel
theorem dX9_grow_106 : decode cX9_grow 106 = .ok (.getfield 43, 3) := by decide +kernel
theorem dX9_grow_109 : decode cX9_grow 109 = .ok (.lastore, 1) := by decide +kernel
theorem dX9_grow_110 : decode cX9_grow 110 = .ok (.aload_n 0, 1) := by decide +kernel
theorem dX9_grow_111 : decode cX9_grow 111 = .ok (.getfield 17, 3) := by decide +kernel
theorem dX9_grow_114 : decode cX9_grow 114 = .ok (.iload 4, 2) := by decide +kernel
theorem dX9_grow_116 : decode cX9_grow 116 = .ok (.aload_n 0, 1) := by decide +kernel
theorem dX9_grow_117 : decode cX9_grow 117 = .ok (.getfield 47, 3) := by decide +kernel
theorem dX9_grow_120 : decode cX9_grow 120 = .ok (.lastore, 1) := by decide +kernel
theorem dX9_grow_121 : decode cX9_grow 121 = .ok (.iinc 4 1, 3) := by decide +kernel
theorem dX9_grow_124 : decode cX9_grow 124 = .ok (.goto (-90), 3) := by decide +kernel
theorem dX9_grow_127 : decode cX9_grow 127 = .ok (.aload_n 0, 1) := by decide +kernel
theorem dX9_grow_128 : decode cX9_grow 128 = .ok (.dup, 1) := by decide +kernel
theorem dX9_grow_129 : decode cX9_grow 129 = .ok (.getfield 85, 3) := by decide +kernel
theorem dX9_grow_132 : decode cX9_grow 132 = .ok (.iload_n 3, 1) := by decide +kernel
theorem dX9_grow_133 : decode cX9_grow 133 = .ok (.iadd, 1) := by decide +kernel
theorem dX9_grow_134 : decode cX9_grow 134 = .ok (.putfield 85, 3) := by decide +kernel
theorem dX9_grow_137 : decode cX9_grow 137 = .ok (.iconst 1, 1) := by decide +kernel
theorem dX9_grow_138 : decode cX9_grow 138 = .ok (.istore 4, 2) := by decide +kernel
theorem dX9_grow_140 : decode cX9_grow 140 = .ok (.iload 4, 2) := by decide +kernel
theorem dX9_grow_142 : decode cX9_grow 142 = .ok (.aload_n 0, 1) := by decide +kernel
theorem dX9_grow_143 : decode cX9_grow 143 = .ok (.getfield 7, 3) := by decide +kernel
theorem dX9_grow_146 : decode cX9_grow 146 = .ok (.if_icmp .gt 114, 3) := by decide +kernel
theorem dX9_grow_149 : decode cX9_grow 149 = .ok (.iconst 0, 1) := by decide +kernel
theorem dX9_grow_150 : decode cX9_grow 150 = .ok (.istore 5, 2) := by decide +kernel
theorem dX9_grow_152 : decode cX9_grow 152 = .ok (.aload_n 0, 1) := by decide +kernel
theorem dX9_grow_153 : decode cX9_grow 153 = .ok (.iload 4, 2) := by decide +kernel
theorem dX9_grow_155 : decode cX9_grow 155 = .ok (.iload 5, 2) := by decide +kernel
theorem dX9_grow_157 : decode cX9_grow 157 = .ok (.invokevirtual 103, 3) := by decide +kernel
theorem dX9_grow_160 : decode cX9_grow 160 = .ok (.ifCond .eq 94, 3) := by decide +kernel
theorem dX9_grow_163 : decode cX9_grow 163 = .ok (.iload 4, 2) := by decide +kernel
theorem dX9_grow_165 : decode cX9_grow 165 = .ok (.iconst 1, 1) := by decide +kernel
theorem dX9_grow_166 : decode cX9_grow 166 = .ok (.isub, 1) := by decide +kernel
theorem dX9_grow_167 : decode cX9_grow 167 = .ok (.iconst 2, 1) := by decide +kernel
theorem dX9_grow_168 : decode cX9_grow 168 = .ok (.iload 5, 2) := by decide +kernel
theorem dX9_grow_170 : decode cX9_grow 170 = .ok (.imul, 1) := by decide +kernel
theorem dX9_grow_171 : decode cX9_grow 171 = .ok (.invokestatic 107, 3) := by decide +kernel
theorem dX9_grow_174 : decode cX9_grow 174 = .ok (.istore 6, 2) := by decide +kernel
theorem dX9_grow_176 : decode cX9_grow 176 = .ok (.aload_n 0, 1) := by decide +kernel
theorem dX9_grow_177 : decode cX9_grow 177 = .ok (.iload 4, 2) := by decide +kernel
theorem dX9_grow_179 : decode cX9_grow 179 = .ok (.iload 5, 2) := by decide +kernel
theorem dX9_grow_181 : decode cX9_grow 181 = .ok (.aload_n 0, 1) := by decide +kernel
theorem dX9_grow_182 : decode cX9_grow 182 = .ok (.getfield 13, 3) := by decide +kernel
theorem dX9_grow_185 : decode cX9_grow 185 = .ok (.iload 6, 2) := by decide +kernel
theorem dX9_grow_187 : decode cX9_grow 187 = .ok (.laload, 1) := by decide +kernel
theorem dX9_grow_188 : decode cX9_grow 188 = .ok (.aload_n 0, 1) := by decide +kernel
theorem dX9_grow_189 : decode cX9_grow 189 = .ok (.getfield 17, 3) := by decide +kernel
theorem dX9_grow_192 : decode cX9_grow 192 = .ok (.iload 6, 2) := by decide +kernel
theorem dX9_grow_194 : decode cX9_grow 194 = .ok (.laload, 1) := by decide +kernel
theorem dX9_grow_195 : decode cX9_grow 195 = .ok (.aload_n 0, 1) := by decide +kernel
theorem dX9_grow_196 : decode cX9_grow 196 = .ok (.getfield 13, 3) := by decide +kernel
theorem dX9_grow_199 : decode cX9_grow 199 = .ok (.iload 6, 2) := by decide +kernel
theorem dX9_grow_201 : decode cX9_grow 201 = .ok (.iconst 1, 1) := by decide +kernel
theorem dX9_grow_202 : decode cX9_grow 202 = .ok (.iadd, 1) := by decide +kernel
theorem dX9_grow_203 : decode cX9_grow 203 = .ok (.laload, 1) := by decide +kernel
theorem dX9_grow_204 : decode cX9_grow 204 = .ok (.aload_n 0, 1) := by decide +kernel
theorem dX9_grow_205 : decode cX9_grow 205 = .ok (.getfield 17, 3) := by decide +kernel
theorem dX9_grow_208 : decode cX9_grow 208 = .ok (.iload 6, 2) := by decide +kernel
theorem dX9_grow_210 : decode cX9_grow 210 = .ok (.iconst 1, 1) := by decide +kernel
theorem dX9_grow_211 : decode cX9_grow 211 = .ok (.iadd, 1) := by decide +kernel
theorem dX9_grow_212 : decode cX9_grow 212 = .ok (.laload, 1) := by decide +kernel
theorem dX9_grow_213 : decode cX9_grow 213 = .ok (.invokevirtual 111, 3) := by decide +kernel
theorem dX9_grow_216 : decode cX9_grow 216 = .ok (.aload_n 0, 1) := by decide +kernel
theorem dX9_grow_217 : decode cX9_grow 217 = .ok (.getfield 13, 3) := by decide +kernel
theorem dX9_grow_220 : decode cX9_grow 220 = .ok (.iload 4, 2) := by decide +kernel
theorem dX9_grow_222 : decode cX9_grow 222 = .ok (.iload 5, 2) := by decide +kernel
theorem dX9_grow_224 : decode cX9_grow 224 = .ok (.invokestatic 107, 3) := by decide +kernel
theorem dX9_grow_227 : decode cX9_grow 227 = .ok (.aload_n 0, 1) := by decide +kernel
theorem dX9_grow_228 : decode cX9_grow 228 = .ok (.getfield 43, 3) := by decide +kernel
theorem dX9_grow_231 : decode cX9_grow 231 = .ok (.lastore, 1) := by decide +kernel
theorem dX9_grow_232 : decode cX9_grow 232 = .ok (.aload_n 0, 1) := by decide +kernel
theorem dX9_grow_233 : decode cX9_grow 233 = .ok (.getfield 17, 3) := by decide +kernel
theorem dX9_grow_236 : decode cX9_grow 236 = .ok (.iload 4, 2) := by decide +kernel
theorem dX9_grow_238 : decode cX9_grow 238 = .ok (.iload 5, 2) := by decide +kernel
theorem dX9_grow_240 : decode cX9_grow 240 = .ok (.invokestatic 107, 3) := by decide +kernel
theorem dX9_grow_243 : decode cX9_grow 243 = .ok (.aload_n 0, 1) := by decide +kernel
theorem dX9_grow_244 : decode cX9_grow 244 = .ok (.getfield 47, 3) := by decide +kernel
theorem dX9_grow_247 : decode cX9_grow 247 = .ok (.lastore, 1) := by decide +kernel
theorem dX9_grow_248 : decode cX9_grow 248 = .ok (.iinc 5 1, 3) := by decide +kernel
theorem dX9_grow_251 : decode cX9_grow 251 = .ok (.goto (-99), 3) := by decide +kernel
theorem dX9_grow_254 : decode cX9_grow 254 = .ok (.iinc 4 1, 3) := by decide +kernel
theorem dX9_grow_257 : decode cX9_grow 257 = .ok (.goto (-117), 3) := by decide +kernel
theorem dX9_grow_260 : decode cX9_grow 260 = .ok (.aload_n 0, 1) := by decide +kernel
theorem dX9_grow_261 : decode cX9_grow 261 = .ok (.invokevirtual 81, 3) := by decide +kernel
theorem dX9_grow_264 : decode cX9_grow 264 = .ok (.aload_n 0, 1) := by decide +kernel
theorem dX9_grow_265 : decode cX9_grow 265 = .ok (.getfield 85, 3) := by decide +kernel
theorem dX9_grow_268 : decode cX9_grow 268 = .ok (.isub, 1) := by decide +kernel
theorem dX9_grow_269 : decode cX9_grow 269 = .ok (.ireturn, 1) := by decide +kernel
set_option maxRecDepth 20000 in
theorem ggX9_node_X9_isMade : GoodIn wsX9_node wsX9_isMade := goodIn_r _ [7, 8, 9, 10, 11, 12, 6, 13, 17, 18, 19, 20, 21, 22, 23, 24, 25, 26, 27, 28, 29, 30, 31, 32, 33, 34, 35, 36, 37] (by decide +kernel) (by decide +kernel)
set_option maxRecDepth 20000 in
theorem gX9_node_X9_isMade : GoodIn wsX9_node (wsV RX9 103 RX9 yX9_isMade wsX9_isMade) := goodIn_app (goodIn_of _ (by decide +kernel)) ggX9_node_X9_isMade
set_option maxRecDepth 20000 in
theorem ggX9_node_X9_at : GoodIn wsX9_node wsX9_at := goodIn_r _ [16] (by decide +kernel) (by decide +kernel)
set_option maxRecDepth 20000 in
theorem gX9_node_X9_at : GoodIn wsX9_node (va_wsS RX9 107 yX9_at wsX9_at) := goodIn_app (goodIn_of _ (by decide +kernel)) ggX9_node_X9_at
theorem dX9_node_0 : decode cX9_node 0 = .ok (.iload_n 3, 1) := by decide +kernel
theorem dX9_node_1 : decode cX9_node 1 = .ok (.ifCond .lt 17, 3) := by decide +kernel
theorem dX9_node_4 : decode cX9_node 4 = .ok (.iload_n 3, 1) := by decide +kernel
theorem dX9_node_5 : decode cX9_node 5 = .ok (.iconst 1, 1) := by decide +kernel
theorem dX9_node_6 : decode cX9_node 6 = .ok (.if_icmp .gt 12, 3) := by decide +kernel
theorem dX9_node_9 : decode cX9_node 9 = .ok (.aload_n 0, 1) := by decide +kernel
theorem dX9_node_10 : decode cX9_node 10 = .ok (.iload_n 1, 1) := by decide +kernel
theorem dX9_node_11 : decode cX9_node 11 = .ok (.iload_n 2, 1) := by decide +kernel
theorem dX9_node_12 : decode cX9_node 12 = .ok (.invokevirtual 103, 3) := by decide +kernel
theorem dX9_node_15 : decode cX9_node 15 = .ok (.ifCond .ne 5, 3) := by decide +kernel
theorem dX9_node_18 : decode cX9_node 18 = .ok (.lconst 0, 1) := by decide +kernel
theorem dX9_node_19 : decode cX9_node 19 = .ok (.lreturn, 1) := by decide +kernel
theorem dX9_node_20 : decode cX9_node 20 = .ok (.iload_n 3, 1) := by decide +kernel
theorem dX9_node_21 : decode cX9_node 21 = .ok (.ifCond .ne 16, 3) := by decide +kernel
theorem dX9_node_24 : decode cX9_node 24 = .ok (.aload_n 0, 1) := by decide +kernel
theorem dX9_node_25 : decode cX9_node 25 = .ok (.getfield 13, 3) := by decide +kernel
theorem dX9_node_28 : decode cX9_node 28 = .ok (.iload_n 1, 1) := by decide +kernel
theorem dX9_node_29 : decode cX9_node 29 = .ok (.iload_n 2, 1) := by decide +kernel
theorem dX9_node_30 : decode cX9_node 30 = .ok (.invokestatic 107, 3) := by decide +kernel
theorem dX9_node_33 : decode cX9_node 33 = .ok (.laload, 1) := by decide +kernel
theorem dX9_node_34 : decode cX9_node 34 = .ok (.goto 13, 3) := by decide +kernel
theorem dX9_node_37 : decode cX9_node 37 = .ok (.aload_n 0, 1) := by decide +kernel
theorem dX9_node_38 : decode cX9_node 38 = .ok (.getfield 17, 3) := by decide +kernel
theorem dX9_node_41 : decode cX9_node 41 = .ok (.iload_n 1, 1) := by decide +kernel
theorem dX9_node_42 : decode cX9_node 42 = .ok (.iload_n 2, 1) := by decide +kernel
theorem dX9_node_43 : decode cX9_node 43 = .ok (.invokestatic 107, 3) := by decide +kernel
theorem dX9_node_46 : decode cX9_node 46 = .ok (.laload, 1) := by decide +kernel
theorem dX9_node_47 : decode cX9_node 47 = .ok (.lreturn, 1) := by decide +kernel
theorem dX9_feed_0 : decode cX9_feed 0 = .ok (.aload_n 0, 1) := by decide +kernel
theorem dX9_feed_1 : decode cX9_feed 1 = .ok (.getfield 115, 3) := by decide +kernel
theorem dX9_feed_4 : decode cX9_feed 4 = .ok (.bipush 20, 2) := by decide +kernel
theorem dX9_feed_6 : decode cX9_feed 6 = .ok (.if_icmp .ne 5, 3) := by decide +kernel
theorem dX9_feed_9 : decode cX9_feed 9 = .ok (.iconst (-1), 1) := by decide +kernel
theorem dX9_feed_10 : decode cX9_feed 10 = .ok (.ireturn, 1) := by decide +kernel
theorem dX9_feed_11 : decode cX9_feed 11 = .ok (.aload_n 0, 1) := by decide +kernel
theorem dX9_feed_12 : decode cX9_feed 12 = .ok (.getfield 20, 3) := by decide +kernel
theorem dX9_feed_15 : decode cX9_feed 15 = .ok (.aload_n 0, 1) := by decide +kernel
theorem dX9_feed_16 : decode cX9_feed 16 = .ok (.getfield 115, 3) := by decide +kernel
theorem dX9_feed_19 : decode cX9_feed 19 = .ok (.lload_n 1, 1) := by decide +kernel
theorem dX9_feed_20 : decode cX9_feed 20 = .ok (.lastore, 1) := by decide +kernel
theorem dX9_feed_21 : decode cX9_feed 21 = .ok (.aload_n 0, 1) := by decide +kernel
theorem dX9_feed_22 : decode cX9_feed 22 = .ok (.dup, 1) := by decide +kernel
theorem dX9_feed_23 : decode cX9_feed 23 = .ok (.getfield 115, 3) := by decide +kernel
theorem dX9_feed_26 : decode cX9_feed 26 = .ok (.iconst 1, 1) := by decide +kernel
theorem dX9_feed_27 : decode cX9_feed 27 = .ok (.iadd, 1) := by decide +kernel
theorem dX9_feed_28 : decode cX9_feed 28 = .ok (.putfield 115, 3) := by decide +kernel
theorem dX9_feed_31 : decode cX9_feed 31 = .ok (.aload_n 0, 1) := by decide +kernel
theorem dX9_feed_32 : decode cX9_feed 32 = .ok (.getfield 115, 3) := by decide +kernel
theorem dX9_feed_35 : decode cX9_feed 35 = .ok (.ireturn, 1) := by decide +kernel
theorem dX9_reset_0 : decode cX9_reset 0 = .ok (.aload_n 0, 1) := by decide +kernel
theorem dX9_reset_1 : decode cX9_reset 1 = .ok (.getfield 115, 3) := by decide +kernel
theorem dX9_reset_4 : decode cX9_reset 4 = .ok (.istore_n 1, 1) := by decide +kernel
theorem dX9_reset_5 : decode cX9_reset 5 = .ok (.aload_n 0, 1) := by decide +kernel
theorem dX9_reset_6 : decode cX9_reset 6 = .ok (.iconst 0, 1) := by decide +kernel
theorem dX9_reset_7 : decode cX9_reset 7 = .ok (.putfield 115, 3) := by decide +kernel
theorem dX9_reset_10 : decode cX9_reset 10 = .ok (.iload_n 1, 1) := by decide +kernel
theorem dX9_reset_11 : decode cX9_reset 11 = .ok (.ireturn, 1) := by decide +kernel

theorem dX2_open_0 : decode cX2_open 0 = .ok (.aload_n 1, 1) := by decide +kernel
theorem dX2_open_1 : decode cX2_open 1 = .ok (.iconst 0, 1) := by decide +kernel
theorem dX2_open_2 : decode cX2_open 2 = .ok (.putfield 25, 3) := by decide +kernel
theorem dX2_open_5 : decode cX2_open 5 = .ok (.aload_n 1, 1) := by decide +kernel
theorem dX2_open_6 : decode cX2_open 6 = .ok (.iconst 0, 1) := by decide +kernel
theorem dX2_open_7 : decode cX2_open 7 = .ok (.putfield 31, 3) := by decide +kernel
theorem dX2_open_10 : decode cX2_open 10 = .ok (.aload_n 0, 1) := by decide +kernel
theorem dX2_open_11 : decode cX2_open 11 = .ok (.getfield 18, 3) := by decide +kernel
theorem dX2_open_14 : decode cX2_open 14 = .ok (.aload_n 1, 1) := by decide +kernel
theorem dX2_open_15 : decode cX2_open 15 = .ok (.getfield 35, 3) := by decide +kernel
theorem dX2_open_18 : decode cX2_open 18 = .ok (.invokevirtual 38, 3) := by decide +kernel
theorem dX2_open_21 : decode cX2_open 21 = .ok (.return_, 1) := by decide +kernel
set_option maxRecDepth 20000 in
theorem ggX2_tell_J7_fill_53178 : GoodIn wsX2_tell wsJ7_fill_53178 := goodIn_r _ [5] rfl (by decide +kernel)
set_option maxRecDepth 20000 in
theorem gX2_tell_J7_fill_53178 : GoodIn wsX2_tell (va_wsS RX2 42 yJ7_fill_53178 wsJ7_fill_53178) := goodIn_app (goodIn_of _ (by decide +kernel)) ggX2_tell_J7_fill_53178
set_option maxRecDepth 20000 in
theorem ggX2_tell_X2_tellWords : GoodIn wsX2_tell wsX2_tellWords := goodIn_r _ [10, 11, 12, 13, 14, 15, 16, 17, 18, 19, 20, 21, 22, 23, 24, 25, 26, 27, 28, 29, 30, 31, 32, 33, 34, 35, 36, 37, 38, 39, 40, 41, 42, 43, 44, 45] rfl (by decide +kernel)
set_option maxRecDepth 20000 in
theorem gX2_tell_X2_tellWords : GoodIn wsX2_tell (wsV RX2 48 RX2 yX2_tellWords wsX2_tellWords) := goodIn_app (goodIn_of _ (by decide +kernel)) ggX2_tell_X2_tellWords
theorem dX2_tell_0 : decode cX2_tell 0 = .ok (.aload_n 0, 1) := by decide +kernel
theorem dX2_tell_1 : decode cX2_tell 1 = .ok (.getfield 22, 3) := by decide +kernel
theorem dX2_tell_4 : decode cX2_tell 4 = .ok (.iconst 0, 1) := by decide +kernel
theorem dX2_tell_5 : decode cX2_tell 5 = .ok (.invokestatic 42, 3) := by decide +kernel
theorem dX2_tell_8 : decode cX2_tell 8 = .ok (.aload_n 0, 1) := by decide +kernel
theorem dX2_tell_9 : decode cX2_tell 9 = .ok (.getfield 22, 3) := by decide +kernel
theorem dX2_tell_12 : decode cX2_tell 12 = .ok (.iconst 0, 1) := by decide +kernel
theorem dX2_tell_13 : decode cX2_tell 13 = .ok (.iload_n 2, 1) := by decide +kernel
theorem dX2_tell_14 : decode cX2_tell 14 = .ok (.iastore, 1) := by decide +kernel
theorem dX2_tell_15 : decode cX2_tell 15 = .ok (.aload_n 0, 1) := by decide +kernel
theorem dX2_tell_16 : decode cX2_tell 16 = .ok (.getfield 22, 3) := by decide +kernel
theorem dX2_tell_19 : decode cX2_tell 19 = .ok (.iconst 1, 1) := by decide +kernel
theorem dX2_tell_20 : decode cX2_tell 20 = .ok (.iload_n 3, 1) := by decide +kernel
theorem dX2_tell_21 : decode cX2_tell 21 = .ok (.iastore, 1) := by decide +kernel
theorem dX2_tell_22 : decode cX2_tell 22 = .ok (.aload_n 0, 1) := by decide +kernel
theorem dX2_tell_23 : decode cX2_tell 23 = .ok (.getfield 22, 3) := by decide +kernel
theorem dX2_tell_26 : decode cX2_tell 26 = .ok (.iconst 2, 1) := by decide +kernel
theorem dX2_tell_27 : decode cX2_tell 27 = .ok (.iload 4, 2) := by decide +kernel
theorem dX2_tell_29 : decode cX2_tell 29 = .ok (.iastore, 1) := by decide +kernel
theorem dX2_tell_30 : decode cX2_tell 30 = .ok (.aload_n 0, 1) := by decide +kernel
theorem dX2_tell_31 : decode cX2_tell 31 = .ok (.aload_n 1, 1) := by decide +kernel
theorem dX2_tell_32 : decode cX2_tell 32 = .ok (.aload_n 0, 1) := by decide +kernel
theorem dX2_tell_33 : decode cX2_tell 33 = .ok (.getfield 22, 3) := by decide +kernel
theorem dX2_tell_36 : decode cX2_tell 36 = .ok (.invokevirtual 48, 3) := by decide +kernel
theorem dX2_tell_39 : decode cX2_tell 39 = .ok (.return_, 1) := by decide +kernel
set_option maxRecDepth 20000 in
theorem ggX2_tellWords_X0_take : GoodIn wsX2_tellWords wsX0_take := goodIn_r _ [8, 9, 10, 11, 12, 13, 7, 14, 15, 16, 17, 18, 34, 35] rfl (by decide +kernel)
set_option maxRecDepth 20000 in
theorem gX2_tellWords_X0_take : GoodIn wsX2_tellWords (wsV RX2 52 RX0 yX0_take wsX0_take) := goodIn_app (goodIn_of _ (by decide +kernel)) ggX2_tellWords_X0_take
theorem dX2_tellWords_0 : decode cX2_tellWords 0 = .ok (.aload_n 0, 1) := by decide +kernel
theorem dX2_tellWords_1 : decode cX2_tellWords 1 = .ok (.getfield 18, 3) := by decide +kernel
theorem dX2_tellWords_4 : decode cX2_tellWords 4 = .ok (.aload_n 1, 1) := by decide +kernel
theorem dX2_tellWords_5 : decode cX2_tellWords 5 = .ok (.getfield 35, 3) := by decide +kernel
theorem dX2_tellWords_8 : decode cX2_tellWords 8 = .ok (.aload_n 2, 1) := by decide +kernel
theorem dX2_tellWords_9 : decode cX2_tellWords 9 = .ok (.invokevirtual 52, 3) := by decide +kernel
theorem dX2_tellWords_12 : decode cX2_tellWords 12 = .ok (.aload_n 1, 1) := by decide +kernel
theorem dX2_tellWords_13 : decode cX2_tellWords 13 = .ok (.dup, 1) := by decide +kernel
theorem dX2_tellWords_14 : decode cX2_tellWords 14 = .ok (.getfield 31, 3) := by decide +kernel
theorem dX2_tellWords_17 : decode cX2_tellWords 17 = .ok (.iconst 1, 1) := by decide +kernel
theorem dX2_tellWords_18 : decode cX2_tellWords 18 = .ok (.iadd, 1) := by decide +kernel
theorem dX2_tellWords_19 : decode cX2_tellWords 19 = .ok (.putfield 31, 3) := by decide +kernel
theorem dX2_tellWords_22 : decode cX2_tellWords 22 = .ok (.return_, 1) := by decide +kernel
set_option maxRecDepth 20000 in
theorem ggX2_seal_X2_tell : GoodIn wsX2_seal wsX2_tell := goodIn_r _ [9, 10, 11, 12, 13, 14, 15, 16, 17, 8, 18, 1, 2, 3, 19, 20, 21, 22, 23, 24, 25, 26, 27, 28, 29, 30, 31, 32, 33, 40, 41, 42, 43, 44, 45, 46, 47, 48, 49, 50, 51, 52, 53, 54, 55, 56] rfl (by decide +kernel)
set_option maxRecDepth 20000 in
theorem gX2_seal_X2_tell : GoodIn wsX2_seal (wsV RX2 56 RX2 yX2_tell wsX2_tell) := goodIn_app (goodIn_of _ (by decide +kernel)) ggX2_seal_X2_tell
set_option maxRecDepth 20000 in
theorem ggX2_seal_X0_endAfter : GoodIn wsX2_seal wsX0_endAfter := goodIn_r _ [37, 38, 39, 55, 56] rfl (by decide +kernel)
set_option maxRecDepth 20000 in
theorem gX2_seal_X0_endAfter : GoodIn wsX2_seal (wsV RX2 60 RX0 yX0_endAfter wsX0_endAfter) := goodIn_app (goodIn_of _ (by decide +kernel)) ggX2_seal_X0_endAfter
set_option maxRecDepth 20000 in
theorem ggX2_seal_X0_take : GoodIn wsX2_seal wsX0_take := goodIn_r _ [23, 24, 25, 26, 27, 28, 22, 29, 30, 31, 32, 33, 55, 56] rfl (by decide +kernel)
set_option maxRecDepth 20000 in
theorem gX2_seal_X0_take : GoodIn wsX2_seal (wsV RX2 52 RX0 yX0_take wsX0_take) := goodIn_app (goodIn_of _ (by decide +kernel)) ggX2_seal_X0_take
theorem dX2_seal_0 : decode cX2_seal 0 = .ok (.aload_n 0, 1) := by decide +kernel
theorem dX2_seal_1 : decode cX2_seal 1 = .ok (.aload_n 1, 1) := by decide +kernel
theorem dX2_seal_2 : decode cX2_seal 2 = .ok (.iconst 4, 1) := by decide +kernel
theorem dX2_seal_3 : decode cX2_seal 3 = .ok (.iconst 0, 1) := by decide +kernel
theorem dX2_seal_4 : decode cX2_seal 4 = .ok (.iconst 0, 1) := by decide +kernel
theorem dX2_seal_5 : decode cX2_seal 5 = .ok (.invokevirtual 56, 3) := by decide +kernel
theorem dX2_seal_8 : decode cX2_seal 8 = .ok (.aload_n 0, 1) := by decide +kernel
theorem dX2_seal_9 : decode cX2_seal 9 = .ok (.getfield 18, 3) := by decide +kernel
theorem dX2_seal_12 : decode cX2_seal 12 = .ok (.aload_n 1, 1) := by decide +kernel
theorem dX2_seal_13 : decode cX2_seal 13 = .ok (.getfield 35, 3) := by decide +kernel
theorem dX2_seal_16 : decode cX2_seal 16 = .ok (.aload_n 0, 1) := by decide +kernel
theorem dX2_seal_17 : decode cX2_seal 17 = .ok (.getfield 18, 3) := by decide +kernel
theorem dX2_seal_20 : decode cX2_seal 20 = .ok (.aload_n 1, 1) := by decide +kernel
theorem dX2_seal_21 : decode cX2_seal 21 = .ok (.getfield 31, 3) := by decide +kernel
theorem dX2_seal_24 : decode cX2_seal 24 = .ok (.invokevirtual 60, 3) := by decide +kernel
theorem dX2_seal_27 : decode cX2_seal 27 = .ok (.invokevirtual 52, 3) := by decide +kernel
theorem dX2_seal_30 : decode cX2_seal 30 = .ok (.aload_n 1, 1) := by decide +kernel
theorem dX2_seal_31 : decode cX2_seal 31 = .ok (.iconst 1, 1) := by decide +kernel
theorem dX2_seal_32 : decode cX2_seal 32 = .ok (.putfield 25, 3) := by decide +kernel
theorem dX2_seal_35 : decode cX2_seal 35 = .ok (.return_, 1) := by decide +kernel
set_option maxRecDepth 20000 in
theorem ggX2_writeVoucher_X0_begin : GoodIn wsX2_writeVoucher wsX0_begin := goodIn_r _ [12, 13, 14, 5, 6, 7] rfl (by decide +kernel)
set_option maxRecDepth 20000 in
theorem gX2_writeVoucher_X0_begin : GoodIn wsX2_writeVoucher (wsV RX2 38 RX0 yX0_begin wsX0_begin) := goodIn_app (goodIn_of _ (by decide +kernel)) ggX2_writeVoucher_X0_begin
set_option maxRecDepth 20000 in
theorem ggX2_writeVoucher_X0_take : GoodIn wsX2_writeVoucher wsX0_take := goodIn_r _ [18, 19, 20, 21, 22, 23, 11, 24, 14, 5, 6, 7, 38, 39] rfl (by decide +kernel)
set_option maxRecDepth 20000 in
theorem gX2_writeVoucher_X0_take : GoodIn wsX2_writeVoucher (wsV RX2 52 RX0 yX0_take wsX0_take) := goodIn_app (goodIn_of _ (by decide +kernel)) ggX2_writeVoucher_X0_take
set_option maxRecDepth 20000 in
theorem ggX2_writeVoucher_J7_fill_53178 : GoodIn wsX2_writeVoucher wsJ7_fill_53178 := goodIn_r _ [28] rfl (by decide +kernel)
set_option maxRecDepth 20000 in
theorem gX2_writeVoucher_J7_fill_53178 : GoodIn wsX2_writeVoucher (va_wsS RX2 42 yJ7_fill_53178 wsJ7_fill_53178) := goodIn_app (goodIn_of _ (by decide +kernel)) ggX2_writeVoucher_J7_fill_53178
set_option maxRecDepth 20000 in
theorem ggX2_writeVoucher_X0_endAfter : GoodIn wsX2_writeVoucher wsX0_endAfter := goodIn_r _ [32, 33, 34, 38, 39] rfl (by decide +kernel)
set_option maxRecDepth 20000 in
theorem gX2_writeVoucher_X0_endAfter : GoodIn wsX2_writeVoucher (wsV RX2 60 RX0 yX0_endAfter wsX0_endAfter) := goodIn_app (goodIn_of _ (by decide +kernel)) ggX2_writeVoucher_X0_endAfter
theorem dX2_writeVoucher_0 : decode cX2_writeVoucher 0 = .ok (.aload_n 0, 1) := by decide +kernel
theorem dX2_writeVoucher_1 : decode cX2_writeVoucher 1 = .ok (.getfield 18, 3) := by decide +kernel
theorem dX2_writeVoucher_4 : decode cX2_writeVoucher 4 = .ok (.aload_n 3, 1) := by decide +kernel
theorem dX2_writeVoucher_5 : decode cX2_writeVoucher 5 = .ok (.invokevirtual 38, 3) := by decide +kernel
theorem dX2_writeVoucher_8 : decode cX2_writeVoucher 8 = .ok (.aload_n 0, 1) := by decide +kernel
theorem dX2_writeVoucher_9 : decode cX2_writeVoucher 9 = .ok (.getfield 9, 3) := by decide +kernel
theorem dX2_writeVoucher_12 : decode cX2_writeVoucher 12 = .ok (.iconst 0, 1) := by decide +kernel
theorem dX2_writeVoucher_13 : decode cX2_writeVoucher 13 = .ok (.aload_n 0, 1) := by decide +kernel
theorem dX2_writeVoucher_14 : decode cX2_writeVoucher 14 = .ok (.getfield 22, 3) := by decide +kernel
theorem dX2_writeVoucher_17 : decode cX2_writeVoucher 17 = .ok (.iconst 0, 1) := by decide +kernel
theorem dX2_writeVoucher_18 : decode cX2_writeVoucher 18 = .ok (.bipush 8, 2) := by decide +kernel
theorem dX2_writeVoucher_20 : decode cX2_writeVoucher 20 = .ok (.invokestatic 64, 3) := by decide +kernel
theorem dX2_writeVoucher_23 : decode cX2_writeVoucher 23 = .ok (.aload_n 1, 1) := by decide +kernel
theorem dX2_writeVoucher_24 : decode cX2_writeVoucher 24 = .ok (.iconst 0, 1) := by decide +kernel
theorem dX2_writeVoucher_25 : decode cX2_writeVoucher 25 = .ok (.aload_n 0, 1) := by decide +kernel
theorem dX2_writeVoucher_26 : decode cX2_writeVoucher 26 = .ok (.getfield 22, 3) := by decide +kernel
theorem dX2_writeVoucher_29 : decode cX2_writeVoucher 29 = .ok (.bipush 8, 2) := by decide +kernel
theorem dX2_writeVoucher_31 : decode cX2_writeVoucher 31 = .ok (.bipush 8, 2) := by decide +kernel
theorem dX2_writeVoucher_33 : decode cX2_writeVoucher 33 = .ok (.invokestatic 64, 3) := by decide +kernel
theorem dX2_writeVoucher_36 : decode cX2_writeVoucher 36 = .ok (.aload_n 0, 1) := by decide +kernel
theorem dX2_writeVoucher_37 : decode cX2_writeVoucher 37 = .ok (.getfield 18, 3) := by decide +kernel
theorem dX2_writeVoucher_40 : decode cX2_writeVoucher 40 = .ok (.aload_n 3, 1) := by decide +kernel
theorem dX2_writeVoucher_41 : decode cX2_writeVoucher 41 = .ok (.aload_n 0, 1) := by decide +kernel
theorem dX2_writeVoucher_42 : decode cX2_writeVoucher 42 = .ok (.getfield 22, 3) := by decide +kernel
theorem dX2_writeVoucher_45 : decode cX2_writeVoucher 45 = .ok (.invokevirtual 52, 3) := by decide +kernel
theorem dX2_writeVoucher_48 : decode cX2_writeVoucher 48 = .ok (.aload_n 0, 1) := by decide +kernel
theorem dX2_writeVoucher_49 : decode cX2_writeVoucher 49 = .ok (.getfield 22, 3) := by decide +kernel
theorem dX2_writeVoucher_52 : decode cX2_writeVoucher 52 = .ok (.iconst 0, 1) := by decide +kernel
theorem dX2_writeVoucher_53 : decode cX2_writeVoucher 53 = .ok (.invokestatic 42, 3) := by decide +kernel
theorem dX2_writeVoucher_56 : decode cX2_writeVoucher 56 = .ok (.aload_n 2, 1) := by decide +kernel
theorem dX2_writeVoucher_57 : decode cX2_writeVoucher 57 = .ok (.iconst 0, 1) := by decide +kernel
theorem dX2_writeVoucher_58 : decode cX2_writeVoucher 58 = .ok (.aload_n 0, 1) := by decide +kernel
theorem dX2_writeVoucher_59 : decode cX2_writeVoucher 59 = .ok (.getfield 22, 3) := by decide +kernel
theorem dX2_writeVoucher_62 : decode cX2_writeVoucher 62 = .ok (.iconst 0, 1) := by decide +kernel
theorem dX2_writeVoucher_63 : decode cX2_writeVoucher 63 = .ok (.bipush 8, 2) := by decide +kernel
theorem dX2_writeVoucher_65 : decode cX2_writeVoucher 65 = .ok (.invokestatic 64, 3) := by decide +kernel
theorem dX2_writeVoucher_68 : decode cX2_writeVoucher 68 = .ok (.aload_n 0, 1) := by decide +kernel
theorem dX2_writeVoucher_69 : decode cX2_writeVoucher 69 = .ok (.getfield 18, 3) := by decide +kernel
theorem dX2_writeVoucher_72 : decode cX2_writeVoucher 72 = .ok (.aload_n 3, 1) := by decide +kernel
theorem dX2_writeVoucher_73 : decode cX2_writeVoucher 73 = .ok (.aload_n 0, 1) := by decide +kernel
theorem dX2_writeVoucher_74 : decode cX2_writeVoucher 74 = .ok (.getfield 22, 3) := by decide +kernel
theorem dX2_writeVoucher_77 : decode cX2_writeVoucher 77 = .ok (.invokevirtual 52, 3) := by decide +kernel
theorem dX2_writeVoucher_80 : decode cX2_writeVoucher 80 = .ok (.aload_n 0, 1) := by decide +kernel
theorem dX2_writeVoucher_81 : decode cX2_writeVoucher 81 = .ok (.getfield 18, 3) := by decide +kernel
theorem dX2_writeVoucher_84 : decode cX2_writeVoucher 84 = .ok (.aload_n 3, 1) := by decide +kernel
theorem dX2_writeVoucher_85 : decode cX2_writeVoucher 85 = .ok (.aload_n 0, 1) := by decide +kernel
theorem dX2_writeVoucher_86 : decode cX2_writeVoucher 86 = .ok (.getfield 18, 3) := by decide +kernel
theorem dX2_writeVoucher_89 : decode cX2_writeVoucher 89 = .ok (.iconst 2, 1) := by decide +kernel
theorem dX2_writeVoucher_90 : decode cX2_writeVoucher 90 = .ok (.invokevirtual 60, 3) := by decide +kernel
theorem dX2_writeVoucher_93 : decode cX2_writeVoucher 93 = .ok (.invokevirtual 52, 3) := by decide +kernel
theorem dX2_writeVoucher_96 : decode cX2_writeVoucher 96 = .ok (.return_, 1) := by decide +kernel
theorem dX3_init_0 : decode cX3_init 0 = .ok (.aload_n 0, 1) := by decide +kernel
theorem dX3_init_1 : decode cX3_init 1 = .ok (.invokespecial 3, 3) := by decide +kernel
theorem dX3_init_4 : decode cX3_init 4 = .ok (.aload_n 0, 1) := by decide +kernel
theorem dX3_init_5 : decode cX3_init 5 = .ok (.iconst 0, 1) := by decide +kernel
theorem dX3_init_6 : decode cX3_init 6 = .ok (.putfield 9, 3) := by decide +kernel
theorem dX3_init_9 : decode cX3_init 9 = .ok (.aload_n 0, 1) := by decide +kernel
theorem dX3_init_10 : decode cX3_init 10 = .ok (.iconst (-1), 1) := by decide +kernel
theorem dX3_init_11 : decode cX3_init 11 = .ok (.putfield 15, 3) := by decide +kernel
theorem dX3_init_14 : decode cX3_init 14 = .ok (.aload_n 0, 1) := by decide +kernel
theorem dX3_init_15 : decode cX3_init 15 = .ok (.iconst 0, 1) := by decide +kernel
theorem dX3_init_16 : decode cX3_init 16 = .ok (.putfield 18, 3) := by decide +kernel
theorem dX3_init_19 : decode cX3_init 19 = .ok (.aload_n 0, 1) := by decide +kernel
theorem dX3_init_20 : decode cX3_init 20 = .ok (.iconst 0, 1) := by decide +kernel
theorem dX3_init_21 : decode cX3_init 21 = .ok (.putfield 21, 3) := by decide +kernel
theorem dX3_init_24 : decode cX3_init 24 = .ok (.aload_n 0, 1) := by decide +kernel
theorem dX3_init_25 : decode cX3_init 25 = .ok (.iconst 0, 1) := by decide +kernel
theorem dX3_init_26 : decode cX3_init 26 = .ok (.putfield 25, 3) := by decide +kernel
theorem dX3_init_29 : decode cX3_init 29 = .ok (.aload_n 0, 1) := by decide +kernel
theorem dX3_init_30 : decode cX3_init 30 = .ok (.iconst 4, 1) := by decide +kernel
theorem dX3_init_31 : decode cX3_init 31 = .ok (.newarray .int, 2) := by decide +kernel
theorem dX3_init_33 : decode cX3_init 33 = .ok (.putfield 28, 3) := by decide +kernel
theorem dX3_init_36 : decode cX3_init 36 = .ok (.aload_n 0, 1) := by decide +kernel
theorem dX3_init_37 : decode cX3_init 37 = .ok (.bipush 8, 2) := by decide +kernel
theorem dX3_init_39 : decode cX3_init 39 = .ok (.newarray .int, 2) := by decide +kernel
theorem dX3_init_41 : decode cX3_init 41 = .ok (.putfield 32, 3) := by decide +kernel
theorem dX3_init_44 : decode cX3_init 44 = .ok (.aload_n 0, 1) := by decide +kernel
theorem dX3_init_45 : decode cX3_init 45 = .ok (.iconst 0, 1) := by decide +kernel
theorem dX3_init_46 : decode cX3_init 46 = .ok (.putfield 35, 3) := by decide +kernel
theorem dX3_init_49 : decode cX3_init 49 = .ok (.aload_n 0, 1) := by decide +kernel
theorem dX3_init_50 : decode cX3_init 50 = .ok (.iconst 0, 1) := by decide +kernel
theorem dX3_init_51 : decode cX3_init 51 = .ok (.putfield 38, 3) := by decide +kernel
theorem dX3_init_54 : decode cX3_init 54 = .ok (.aload_n 0, 1) := by decide +kernel
theorem dX3_init_55 : decode cX3_init 55 = .ok (.iconst 0, 1) := by decide +kernel
theorem dX3_init_56 : decode cX3_init 56 = .ok (.putfield 41, 3) := by decide +kernel
theorem dX3_init_59 : decode cX3_init 59 = .ok (.aload_n 0, 1) := by decide +kernel
theorem dX3_init_60 : decode cX3_init 60 = .ok (.iconst 4, 1) := by decide +kernel
theorem dX3_init_61 : decode cX3_init 61 = .ok (.newarray .int, 2) := by decide +kernel
theorem dX3_init_63 : decode cX3_init 63 = .ok (.putfield 44, 3) := by decide +kernel
theorem dX3_init_66 : decode cX3_init 66 = .ok (.aload_n 0, 1) := by decide +kernel
theorem dX3_init_67 : decode cX3_init 67 = .ok (.bipush 8, 2) := by decide +kernel
theorem dX3_init_69 : decode cX3_init 69 = .ok (.newarray .int, 2) := by decide +kernel
theorem dX3_init_71 : decode cX3_init 71 = .ok (.putfield 47, 3) := by decide +kernel
theorem dX3_init_74 : decode cX3_init 74 = .ok (.return_, 1) := by decide +kernel
set_option maxRecDepth 20000 in
theorem ggX4_init_X3_init : GoodIn wsX4_init wsX3_init := goodIn_r _ [12, 13, 2, 3, 14, 15, 16, 17, 18, 7, 19, 20, 21, 22, 23, 24, 25, 28, 29, 30, 31, 32, 33, 34, 35, 36, 37, 38, 39] rfl (by decide +kernel)
set_option maxRecDepth 20000 in
theorem gX4_init_X3_init_n22 : GoodIn wsX4_init (wsX3_init) := ggX4_init_X3_init
theorem dX4_init_0 : decode cX4_init 0 = .ok (.aload_n 0, 1) := by decide +kernel
theorem dX4_init_1 : decode cX4_init 1 = .ok (.invokespecial 3, 3) := by decide +kernel
theorem dX4_init_4 : decode cX4_init 4 = .ok (.aload_n 0, 1) := by decide +kernel
theorem dX4_init_5 : decode cX4_init 5 = .ok (.bipush 20, 2) := by decide +kernel
theorem dX4_init_7 : decode cX4_init 7 = .ok (.anewarray 9, 3) := by decide +kernel
theorem dX4_init_10 : decode cX4_init 10 = .ok (.putfield 11, 3) := by decide +kernel
theorem dX4_init_13 : decode cX4_init 13 = .ok (.aload_n 0, 1) := by decide +kernel
theorem dX4_init_14 : decode cX4_init 14 = .ok (.bipush 28, 2) := by decide +kernel
theorem dX4_init_16 : decode cX4_init 16 = .ok (.bipush 16, 2) := by decide +kernel
theorem dX4_init_18 : decode cX4_init 18 = .ok (.multianewarray 17 2, 4) := by decide +kernel
theorem dX4_init_22 : decode cX4_init 22 = .ok (.putfield 19, 3) := by decide +kernel
theorem dX4_init_25 : decode cX4_init 25 = .ok (.iconst 0, 1) := by decide +kernel
theorem dX4_init_26 : decode cX4_init 26 = .ok (.istore_n 1, 1) := by decide +kernel
theorem dX4_init_27 : decode cX4_init 27 = .ok (.iload_n 1, 1) := by decide +kernel
theorem dX4_init_28 : decode cX4_init 28 = .ok (.bipush 20, 2) := by decide +kernel
theorem dX4_init_30 : decode cX4_init 30 = .ok (.if_icmp .ge 22, 3) := by decide +kernel
theorem dX4_init_33 : decode cX4_init 33 = .ok (.aload_n 0, 1) := by decide +kernel
theorem dX4_init_34 : decode cX4_init 34 = .ok (.getfield 11, 3) := by decide +kernel
theorem dX4_init_37 : decode cX4_init 37 = .ok (.iload_n 1, 1) := by decide +kernel
theorem dX4_init_38 : decode cX4_init 38 = .ok (.new 9, 3) := by decide +kernel
theorem dX4_init_41 : decode cX4_init 41 = .ok (.dup, 1) := by decide +kernel
theorem dX4_init_42 : decode cX4_init 42 = .ok (.invokespecial 22, 3) := by decide +kernel
theorem dX4_init_45 : decode cX4_init 45 = .ok (.aastore, 1) := by decide +kernel
theorem dX4_init_46 : decode cX4_init 46 = .ok (.iinc 1 1, 3) := by decide +kernel
theorem dX4_init_49 : decode cX4_init 49 = .ok (.goto (-22), 3) := by decide +kernel
theorem dX4_init_52 : decode cX4_init 52 = .ok (.return_, 1) := by decide +kernel
theorem dX4_frameRow_0 : decode cX4_frameRow 0 = .ok (.aload_n 0, 1) := by decide +kernel
theorem dX4_frameRow_1 : decode cX4_frameRow 1 = .ok (.getfield 19, 3) := by decide +kernel
theorem dX4_frameRow_4 : decode cX4_frameRow 4 = .ok (.bipush 20, 2) := by decide +kernel
theorem dX4_frameRow_6 : decode cX4_frameRow 6 = .ok (.iload_n 1, 1) := by decide +kernel
theorem dX4_frameRow_7 : decode cX4_frameRow 7 = .ok (.iadd, 1) := by decide +kernel
theorem dX4_frameRow_8 : decode cX4_frameRow 8 = .ok (.aaload, 1) := by decide +kernel
theorem dX4_frameRow_9 : decode cX4_frameRow 9 = .ok (.areturn, 1) := by decide +kernel
theorem dX4_claim_0 : decode cX4_claim 0 = .ok (.aload_n 0, 1) := by decide +kernel
theorem dX4_claim_1 : decode cX4_claim 1 = .ok (.getfield 11, 3) := by decide +kernel
theorem dX4_claim_4 : decode cX4_claim 4 = .ok (.iload_n 1, 1) := by decide +kernel
theorem dX4_claim_5 : decode cX4_claim 5 = .ok (.aaload, 1) := by decide +kernel
theorem dX4_claim_6 : decode cX4_claim 6 = .ok (.astore 4, 2) := by decide +kernel
theorem dX4_claim_8 : decode cX4_claim 8 = .ok (.aload 4, 2) := by decide +kernel
theorem dX4_claim_10 : decode cX4_claim 10 = .ok (.iload_n 2, 1) := by decide +kernel
theorem dX4_claim_11 : decode cX4_claim 11 = .ok (.putfield 23, 3) := by decide +kernel
theorem dX4_claim_14 : decode cX4_claim 14 = .ok (.aload 4, 2) := by decide +kernel
theorem dX4_claim_16 : decode cX4_claim 16 = .ok (.iload_n 3, 1) := by decide +kernel
theorem dX4_claim_17 : decode cX4_claim 17 = .ok (.putfield 27, 3) := by decide +kernel
theorem dX4_claim_20 : decode cX4_claim 20 = .ok (.aload 4, 2) := by decide +kernel
theorem dX4_claim_22 : decode cX4_claim 22 = .ok (.areturn, 1) := by decide +kernel
theorem dX4_countOwnedBy_0 : decode cX4_countOwnedBy 0 = .ok (.iconst 0, 1) := by decide +kernel
theorem dX4_countOwnedBy_1 : decode cX4_countOwnedBy 1 = .ok (.istore_n 2, 1) := by decide +kernel
theorem dX4_countOwnedBy_2 : decode cX4_countOwnedBy 2 = .ok (.iconst 0, 1) := by decide +kernel
theorem dX4_countOwnedBy_3 : decode cX4_countOwnedBy 3 = .ok (.istore_n 3, 1) := by decide +kernel
theorem dX4_countOwnedBy_4 : decode cX4_countOwnedBy 4 = .ok (.iload_n 3, 1) := by decide +kernel
theorem dX4_countOwnedBy_5 : decode cX4_countOwnedBy 5 = .ok (.bipush 20, 2) := by decide +kernel
theorem dX4_countOwnedBy_7 : decode cX4_countOwnedBy 7 = .ok (.if_icmp .ge 25, 3) := by decide +kernel
theorem dX4_countOwnedBy_10 : decode cX4_countOwnedBy 10 = .ok (.aload_n 0, 1) := by decide +kernel
theorem dX4_countOwnedBy_11 : decode cX4_countOwnedBy 11 = .ok (.getfield 11, 3) := by decide +kernel
theorem dX4_countOwnedBy_14 : decode cX4_countOwnedBy 14 = .ok (.iload_n 3, 1) := by decide +kernel
theorem dX4_countOwnedBy_15 : decode cX4_countOwnedBy 15 = .ok (.aaload, 1) := by decide +kernel
theorem dX4_countOwnedBy_16 : decode cX4_countOwnedBy 16 = .ok (.getfield 27, 3) := by decide +kernel
theorem dX4_countOwnedBy_19 : decode cX4_countOwnedBy 19 = .ok (.iload_n 1, 1) := by decide +kernel
theorem dX4_countOwnedBy_20 : decode cX4_countOwnedBy 20 = .ok (.if_icmp .ne 6, 3) := by decide +kernel
theorem dX4_countOwnedBy_23 : decode cX4_countOwnedBy 23 = .ok (.iinc 2 1, 3) := by decide +kernel
theorem dX4_countOwnedBy_26 : decode cX4_countOwnedBy 26 = .ok (.iinc 3 1, 3) := by decide +kernel
theorem dX4_countOwnedBy_29 : decode cX4_countOwnedBy 29 = .ok (.goto (-25), 3) := by decide +kernel
theorem dX4_countOwnedBy_32 : decode cX4_countOwnedBy 32 = .ok (.iload_n 2, 1) := by decide +kernel
theorem dX4_countOwnedBy_33 : decode cX4_countOwnedBy 33 = .ok (.ireturn, 1) := by decide +kernel
set_option maxRecDepth 20000 in
theorem ggX4_entriesFor_X5_isBlock : GoodIn wsX4_entriesFor wsX5_isBlock := goodIn_r _ [6] rfl (by decide +kernel)
set_option maxRecDepth 20000 in
theorem gX4_entriesFor_X5_isBlock_n30 : GoodIn wsX4_entriesFor (wsX5_isBlock) := ggX4_entriesFor_X5_isBlock
theorem dX4_entriesFor_0 : decode cX4_entriesFor 0 = .ok (.iload_n 2, 1) := by decide +kernel
theorem dX4_entriesFor_1 : decode cX4_entriesFor 1 = .ok (.invokestatic 30, 3) := by decide +kernel
theorem dX4_entriesFor_4 : decode cX4_entriesFor 4 = .ok (.ifCond .ne 5, 3) := by decide +kernel
theorem dX4_entriesFor_7 : decode cX4_entriesFor 7 = .ok (.aconst_null, 1) := by decide +kernel
theorem dX4_entriesFor_8 : decode cX4_entriesFor 8 = .ok (.areturn, 1) := by decide +kernel
theorem dX4_entriesFor_9 : decode cX4_entriesFor 9 = .ok (.aload_n 1, 1) := by decide +kernel
theorem dX4_entriesFor_10 : decode cX4_entriesFor 10 = .ok (.getfield 34, 3) := by decide +kernel
theorem dX4_entriesFor_13 : decode cX4_entriesFor 13 = .ok (.iload_n 2, 1) := by decide +kernel
theorem dX4_entriesFor_14 : decode cX4_entriesFor 14 = .ok (.bipush 8, 2) := by decide +kernel
theorem dX4_entriesFor_16 : decode cX4_entriesFor 16 = .ok (.idiv, 1) := by decide +kernel
theorem dX4_entriesFor_17 : decode cX4_entriesFor 17 = .ok (.iaload, 1) := by decide +kernel
theorem dX4_entriesFor_18 : decode cX4_entriesFor 18 = .ok (.istore_n 3, 1) := by decide +kernel
theorem dX4_entriesFor_19 : decode cX4_entriesFor 19 = .ok (.iload_n 3, 1) := by decide +kernel
theorem dX4_entriesFor_20 : decode cX4_entriesFor 20 = .ok (.iconst (-1), 1) := by decide +kernel
theorem dX4_entriesFor_21 : decode cX4_entriesFor 21 = .ok (.if_icmp .ne 7, 3) := by decide +kernel
theorem dX4_entriesFor_24 : decode cX4_entriesFor 24 = .ok (.aconst_null, 1) := by decide +kernel
theorem dX4_entriesFor_25 : decode cX4_entriesFor 25 = .ok (.goto 12, 3) := by decide +kernel
theorem dX4_entriesFor_28 : decode cX4_entriesFor 28 = .ok (.aload_n 0, 1) := by decide +kernel
theorem dX4_entriesFor_29 : decode cX4_entriesFor 29 = .ok (.getfield 11, 3) := by decide +kernel
theorem dX4_entriesFor_32 : decode cX4_entriesFor 32 = .ok (.iload_n 3, 1) := by decide +kernel
theorem dX4_entriesFor_33 : decode cX4_entriesFor 33 = .ok (.aaload, 1) := by decide +kernel
theorem dX4_entriesFor_34 : decode cX4_entriesFor 34 = .ok (.getfield 38, 3) := by decide +kernel
theorem dX4_entriesFor_37 : decode cX4_entriesFor 37 = .ok (.areturn, 1) := by decide +kernel
set_option maxRecDepth 20000 in
theorem ggX4_hasRoom_X4_entriesFor : GoodIn wsX4_hasRoom wsX4_entriesFor := goodIn_r _ [5, 6, 7, 8, 9, 10, 11, 12, 13, 14, 15, 16, 17, 18, 19, 20, 21, 22, 23, 24, 25] rfl (by decide +kernel)
set_option maxRecDepth 20000 in
theorem gX4_hasRoom_X4_entriesFor : GoodIn wsX4_hasRoom (wsV RX4 41 RX4 yX4_entriesFor wsX4_entriesFor) := goodIn_app (goodIn_of _ (by decide +kernel)) ggX4_hasRoom_X4_entriesFor
theorem dX4_hasRoom_0 : decode cX4_hasRoom 0 = .ok (.aload_n 0, 1) := by decide +kernel
theorem dX4_hasRoom_1 : decode cX4_hasRoom 1 = .ok (.aload_n 1, 1) := by decide +kernel
theorem dX4_hasRoom_2 : decode cX4_hasRoom 2 = .ok (.iload_n 2, 1) := by decide +kernel
theorem dX4_hasRoom_3 : decode cX4_hasRoom 3 = .ok (.invokevirtual 41, 3) := by decide +kernel
theorem dX4_hasRoom_6 : decode cX4_hasRoom 6 = .ok (.astore_n 3, 1) := by decide +kernel
theorem dX4_hasRoom_7 : decode cX4_hasRoom 7 = .ok (.aload_n 3, 1) := by decide +kernel
theorem dX4_hasRoom_8 : decode cX4_hasRoom 8 = .ok (.ifnull 16, 3) := by decide +kernel
theorem dX4_hasRoom_11 : decode cX4_hasRoom 11 = .ok (.aload_n 3, 1) := by decide +kernel
theorem dX4_hasRoom_12 : decode cX4_hasRoom 12 = .ok (.iload_n 2, 1) := by decide +kernel
theorem dX4_hasRoom_13 : decode cX4_hasRoom 13 = .ok (.bipush 8, 2) := by decide +kernel
theorem dX4_hasRoom_15 : decode cX4_hasRoom 15 = .ok (.irem, 1) := by decide +kernel
theorem dX4_hasRoom_16 : decode cX4_hasRoom 16 = .ok (.iaload, 1) := by decide +kernel
theorem dX4_hasRoom_17 : decode cX4_hasRoom 17 = .ok (.ifCond .ne 7, 3) := by decide +kernel
theorem dX4_hasRoom_20 : decode cX4_hasRoom 20 = .ok (.iconst 1, 1) := by decide +kernel
theorem dX4_hasRoom_21 : decode cX4_hasRoom 21 = .ok (.goto 4, 3) := by decide +kernel
theorem dX4_hasRoom_24 : decode cX4_hasRoom 24 = .ok (.iconst 0, 1) := by decide +kernel
theorem dX4_hasRoom_25 : decode cX4_hasRoom 25 = .ok (.ireturn, 1) := by decide +kernel
set_option maxRecDepth 20000 in
theorem ggX4_map_X4_entriesFor : GoodIn wsX4_map wsX4_entriesFor := goodIn_r _ [5, 6, 7, 8, 9, 10, 11, 12, 13, 14, 15, 16, 17, 18, 19, 20, 21, 22, 23, 24, 25] rfl (by decide +kernel)
set_option maxRecDepth 20000 in
theorem gX4_map_X4_entriesFor : GoodIn wsX4_map (wsV RX4 41 RX4 yX4_entriesFor wsX4_entriesFor) := goodIn_app (goodIn_of _ (by decide +kernel)) ggX4_map_X4_entriesFor
theorem dX4_map_0 : decode cX4_map 0 = .ok (.aload_n 0, 1) := by decide +kernel
theorem dX4_map_1 : decode cX4_map 1 = .ok (.aload_n 1, 1) := by decide +kernel
theorem dX4_map_2 : decode cX4_map 2 = .ok (.iload_n 2, 1) := by decide +kernel
theorem dX4_map_3 : decode cX4_map 3 = .ok (.invokevirtual 41, 3) := by decide +kernel
theorem dX4_map_6 : decode cX4_map 6 = .ok (.astore 5, 2) := by decide +kernel
theorem dX4_map_8 : decode cX4_map 8 = .ok (.aload 5, 2) := by decide +kernel
theorem dX4_map_10 : decode cX4_map 10 = .ok (.ifnull 16, 3) := by decide +kernel
theorem dX4_map_13 : decode cX4_map 13 = .ok (.aload 5, 2) := by decide +kernel
theorem dX4_map_15 : decode cX4_map 15 = .ok (.iload_n 2, 1) := by decide +kernel
theorem dX4_map_16 : decode cX4_map 16 = .ok (.bipush 8, 2) := by decide +kernel
theorem dX4_map_18 : decode cX4_map 18 = .ok (.irem, 1) := by decide +kernel
theorem dX4_map_19 : decode cX4_map 19 = .ok (.iload_n 3, 1) := by decide +kernel
theorem dX4_map_20 : decode cX4_map 20 = .ok (.iconst 3, 1) := by decide +kernel
theorem dX4_map_21 : decode cX4_map 21 = .ok (.ishl, 1) := by decide +kernel
theorem dX4_map_22 : decode cX4_map 22 = .ok (.iload 4, 2) := by decide +kernel
theorem dX4_map_24 : decode cX4_map 24 = .ok (.ior, 1) := by decide +kernel
theorem dX4_map_25 : decode cX4_map 25 = .ok (.iastore, 1) := by decide +kernel
theorem dX4_map_26 : decode cX4_map 26 = .ok (.return_, 1) := by decide +kernel
set_option maxRecDepth 20000 in
theorem ggX4_rowAt_X4_entriesFor : GoodIn wsX4_rowAt wsX4_entriesFor := goodIn_r _ [6, 7, 8, 9, 10, 11, 12, 15, 16, 17, 18, 19, 20, 21, 22, 23, 24, 25, 26, 13, 14] rfl (by decide +kernel)
set_option maxRecDepth 20000 in
theorem gX4_rowAt_X4_entriesFor : GoodIn wsX4_rowAt (wsV RX4 41 RX4 yX4_entriesFor wsX4_entriesFor) := goodIn_app (goodIn_of _ (by decide +kernel)) ggX4_rowAt_X4_entriesFor
theorem dX4_rowAt_0 : decode cX4_rowAt 0 = .ok (.iload_n 2, 1) := by decide +kernel
theorem dX4_rowAt_1 : decode cX4_rowAt 1 = .ok (.ifCond .lt 10, 3) := by decide +kernel
theorem dX4_rowAt_4 : decode cX4_rowAt 4 = .ok (.iload_n 2, 1) := by decide +kernel
theorem dX4_rowAt_5 : decode cX4_rowAt 5 = .ok (.sipush 512, 3) := by decide +kernel
theorem dX4_rowAt_8 : decode cX4_rowAt 8 = .ok (.if_icmp .lt 5, 3) := by decide +kernel
theorem dX4_rowAt_11 : decode cX4_rowAt 11 = .ok (.aconst_null, 1) := by decide +kernel
theorem dX4_rowAt_12 : decode cX4_rowAt 12 = .ok (.areturn, 1) := by decide +kernel
theorem dX4_rowAt_13 : decode cX4_rowAt 13 = .ok (.iload_n 2, 1) := by decide +kernel
theorem dX4_rowAt_14 : decode cX4_rowAt 14 = .ok (.bipush 16, 2) := by decide +kernel
theorem dX4_rowAt_16 : decode cX4_rowAt 16 = .ok (.idiv, 1) := by decide +kernel
theorem dX4_rowAt_17 : decode cX4_rowAt 17 = .ok (.istore 4, 2) := by decide +kernel
theorem dX4_rowAt_19 : decode cX4_rowAt 19 = .ok (.aload_n 0, 1) := by decide +kernel
theorem dX4_rowAt_20 : decode cX4_rowAt 20 = .ok (.aload_n 1, 1) := by decide +kernel
theorem dX4_rowAt_21 : decode cX4_rowAt 21 = .ok (.iload 4, 2) := by decide +kernel
theorem dX4_rowAt_23 : decode cX4_rowAt 23 = .ok (.invokevirtual 41, 3) := by decide +kernel
theorem dX4_rowAt_26 : decode cX4_rowAt 26 = .ok (.astore 5, 2) := by decide +kernel
theorem dX4_rowAt_28 : decode cX4_rowAt 28 = .ok (.aload 5, 2) := by decide +kernel
theorem dX4_rowAt_30 : decode cX4_rowAt 30 = .ok (.ifnonnull 5, 3) := by decide +kernel
theorem dX4_rowAt_33 : decode cX4_rowAt 33 = .ok (.aconst_null, 1) := by decide +kernel
theorem dX4_rowAt_34 : decode cX4_rowAt 34 = .ok (.areturn, 1) := by decide +kernel
theorem dX4_rowAt_35 : decode cX4_rowAt 35 = .ok (.aload 5, 2) := by decide +kernel
theorem dX4_rowAt_37 : decode cX4_rowAt 37 = .ok (.iload 4, 2) := by decide +kernel
theorem dX4_rowAt_39 : decode cX4_rowAt 39 = .ok (.bipush 8, 2) := by decide +kernel
theorem dX4_rowAt_41 : decode cX4_rowAt 41 = .ok (.irem, 1) := by decide +kernel
theorem dX4_rowAt_42 : decode cX4_rowAt 42 = .ok (.iaload, 1) := by decide +kernel
theorem dX4_rowAt_43 : decode cX4_rowAt 43 = .ok (.istore 6, 2) := by decide +kernel
theorem dX4_rowAt_45 : decode cX4_rowAt 45 = .ok (.iload 6, 2) := by decide +kernel
theorem dX4_rowAt_47 : decode cX4_rowAt 47 = .ok (.iload_n 3, 1) := by decide +kernel
theorem dX4_rowAt_48 : decode cX4_rowAt 48 = .ok (.iand, 1) := by decide +kernel
theorem dX4_rowAt_49 : decode cX4_rowAt 49 = .ok (.ifCond .ne 7, 3) := by decide +kernel
theorem dX4_rowAt_52 : decode cX4_rowAt 52 = .ok (.aconst_null, 1) := by decide +kernel
theorem dX4_rowAt_53 : decode cX4_rowAt 53 = .ok (.goto 12, 3) := by decide +kernel
theorem dX4_rowAt_56 : decode cX4_rowAt 56 = .ok (.aload_n 0, 1) := by decide +kernel
theorem dX4_rowAt_57 : decode cX4_rowAt 57 = .ok (.getfield 19, 3) := by decide +kernel
theorem dX4_rowAt_60 : decode cX4_rowAt 60 = .ok (.iload 6, 2) := by decide +kernel
theorem dX4_rowAt_62 : decode cX4_rowAt 62 = .ok (.iconst 3, 1) := by decide +kernel
theorem dX4_rowAt_63 : decode cX4_rowAt 63 = .ok (.ishr, 1) := by decide +kernel
theorem dX4_rowAt_64 : decode cX4_rowAt 64 = .ok (.aaload, 1) := by decide +kernel
theorem dX4_rowAt_65 : decode cX4_rowAt 65 = .ok (.areturn, 1) := by decide +kernel
set_option maxRecDepth 20000 in
theorem ggX4_useSpare_X5_isPage : GoodIn wsX4_useSpare wsX5_isPage := goodIn_r _ [7] rfl (by decide +kernel)
set_option maxRecDepth 20000 in
theorem gX4_useSpare_X5_isPage_n45 : GoodIn wsX4_useSpare (wsX5_isPage) := ggX4_useSpare_X5_isPage
set_option maxRecDepth 20000 in
theorem ggX4_useSpare_X5_areDataRights : GoodIn wsX4_useSpare wsX5_areDataRights := goodIn_r _ [9] rfl (by decide +kernel)
set_option maxRecDepth 20000 in
theorem gX4_useSpare_X5_areDataRights_n48 : GoodIn wsX4_useSpare (wsX5_areDataRights) := ggX4_useSpare_X5_areDataRights
set_option maxRecDepth 20000 in
theorem ggX4_useSpare_X4_hasRoom : GoodIn wsX4_useSpare wsX4_hasRoom := goodIn_r _ [14, 15, 16, 17, 13, 18, 19, 1, 20, 21, 6, 22, 33, 34, 35, 36, 37, 38, 39, 40, 41, 42, 43, 44, 31, 32] rfl (by decide +kernel)
set_option maxRecDepth 20000 in
theorem gX4_useSpare_X4_hasRoom : GoodIn wsX4_useSpare (wsV RX4 51 RX4 yX4_hasRoom wsX4_hasRoom) := goodIn_app (goodIn_of _ (by decide +kernel)) ggX4_useSpare_X4_hasRoom
set_option maxRecDepth 20000 in
theorem ggX4_useSpare_J7_fill_53178 : GoodIn wsX4_useSpare wsJ7_fill_53178 := goodIn_r _ [26] rfl (by decide +kernel)
set_option maxRecDepth 20000 in
theorem gX4_useSpare_J7_fill_53178 : GoodIn wsX4_useSpare (va_wsS RX4 55 yJ7_fill_53178 wsJ7_fill_53178) := goodIn_app (goodIn_of _ (by decide +kernel)) ggX4_useSpare_J7_fill_53178
set_option maxRecDepth 20000 in
theorem ggX4_useSpare_X4_map : GoodIn wsX4_useSpare wsX4_map := goodIn_r _ [30, 15, 16, 17, 13, 18, 19, 1, 20, 21, 6, 22, 33, 34, 35, 36, 37, 38, 39, 40, 41, 42, 43, 44, 31, 32] rfl (by decide +kernel)
set_option maxRecDepth 20000 in
theorem gX4_useSpare_X4_map : GoodIn wsX4_useSpare (wsV RX4 61 RX4 yX4_map wsX4_map) := goodIn_app (goodIn_of _ (by decide +kernel)) ggX4_useSpare_X4_map
theorem dX4_useSpare_0 : decode cX4_useSpare 0 = .ok (.iload_n 2, 1) := by decide +kernel
theorem dX4_useSpare_1 : decode cX4_useSpare 1 = .ok (.invokestatic 45, 3) := by decide +kernel
theorem dX4_useSpare_4 : decode cX4_useSpare 4 = .ok (.ifCond .eq 29, 3) := by decide +kernel
theorem dX4_useSpare_7 : decode cX4_useSpare 7 = .ok (.aload_n 0, 1) := by decide +kernel
theorem dX4_useSpare_8 : decode cX4_useSpare 8 = .ok (.getfield 11, 3) := by decide +kernel
theorem dX4_useSpare_11 : decode cX4_useSpare 11 = .ok (.iload_n 2, 1) := by decide +kernel
theorem dX4_useSpare_12 : decode cX4_useSpare 12 = .ok (.aaload, 1) := by decide +kernel
theorem dX4_useSpare_13 : decode cX4_useSpare 13 = .ok (.getfield 23, 3) := by decide +kernel
theorem dX4_useSpare_16 : decode cX4_useSpare 16 = .ok (.iconst 5, 1) := by decide +kernel
theorem dX4_useSpare_17 : decode cX4_useSpare 17 = .ok (.if_icmp .ne 16, 3) := by decide +kernel
theorem dX4_useSpare_20 : decode cX4_useSpare 20 = .ok (.aload_n 0, 1) := by decide +kernel
theorem dX4_useSpare_21 : decode cX4_useSpare 21 = .ok (.getfield 11, 3) := by decide +kernel
theorem dX4_useSpare_24 : decode cX4_useSpare 24 = .ok (.iload_n 2, 1) := by decide +kernel
theorem dX4_useSpare_25 : decode cX4_useSpare 25 = .ok (.aaload, 1) := by decide +kernel
theorem dX4_useSpare_26 : decode cX4_useSpare 26 = .ok (.getfield 27, 3) := by decide +kernel
theorem dX4_useSpare_29 : decode cX4_useSpare 29 = .ok (.iload_n 1, 1) := by decide +kernel
theorem dX4_useSpare_30 : decode cX4_useSpare 30 = .ok (.if_icmp .eq 5, 3) := by decide +kernel
theorem dX4_useSpare_33 : decode cX4_useSpare 33 = .ok (.iconst 0, 1) := by decide +kernel
theorem dX4_useSpare_34 : decode cX4_useSpare 34 = .ok (.ireturn, 1) := by decide +kernel
theorem dX4_useSpare_35 : decode cX4_useSpare 35 = .ok (.iload 4, 2) := by decide +kernel
theorem dX4_useSpare_37 : decode cX4_useSpare 37 = .ok (.invokestatic 48, 3) := by decide +kernel
theorem dX4_useSpare_40 : decode cX4_useSpare 40 = .ok (.ifCond .eq 17, 3) := by decide +kernel
theorem dX4_useSpare_43 : decode cX4_useSpare 43 = .ok (.aload_n 0, 1) := by decide +kernel
theorem dX4_useSpare_44 : decode cX4_useSpare 44 = .ok (.aload_n 0, 1) := by decide +kernel
theorem dX4_useSpare_45 : decode cX4_useSpare 45 = .ok (.getfield 11, 3) := by decide +kernel
theorem dX4_useSpare_48 : decode cX4_useSpare 48 = .ok (.iload_n 1, 1) := by decide +kernel
theorem dX4_useSpare_49 : decode cX4_useSpare 49 = .ok (.aaload, 1) := by decide +kernel
theorem dX4_useSpare_50 : decode cX4_useSpare 50 = .ok (.iload_n 3, 1) := by decide +kernel
theorem dX4_useSpare_51 : decode cX4_useSpare 51 = .ok (.invokevirtual 51, 3) := by decide +kernel
theorem dX4_useSpare_54 : decode cX4_useSpare 54 = .ok (.ifCond .ne 5, 3) := by decide +kernel
theorem dX4_useSpare_57 : decode cX4_useSpare 57 = .ok (.iconst 0, 1) := by decide +kernel
theorem dX4_useSpare_58 : decode cX4_useSpare 58 = .ok (.ireturn, 1) := by decide +kernel
theorem dX4_useSpare_59 : decode cX4_useSpare 59 = .ok (.aload_n 0, 1) := by decide +kernel
theorem dX4_useSpare_60 : decode cX4_useSpare 60 = .ok (.getfield 11, 3) := by decide +kernel
theorem dX4_useSpare_63 : decode cX4_useSpare 63 = .ok (.iload_n 2, 1) := by decide +kernel
theorem dX4_useSpare_64 : decode cX4_useSpare 64 = .ok (.aaload, 1) := by decide +kernel
theorem dX4_useSpare_65 : decode cX4_useSpare 65 = .ok (.iconst 4, 1) := by decide +kernel
theorem dX4_useSpare_66 : decode cX4_useSpare 66 = .ok (.putfield 23, 3) := by decide +kernel
theorem dX4_useSpare_69 : decode cX4_useSpare 69 = .ok (.aload_n 0, 1) := by decide +kernel
theorem dX4_useSpare_70 : decode cX4_useSpare 70 = .ok (.getfield 19, 3) := by decide +kernel
theorem dX4_useSpare_73 : decode cX4_useSpare 73 = .ok (.iload_n 2, 1) := by decide +kernel
theorem dX4_useSpare_74 : decode cX4_useSpare 74 = .ok (.aaload, 1) := by decide +kernel
theorem dX4_useSpare_75 : decode cX4_useSpare 75 = .ok (.iconst 0, 1) := by decide +kernel
theorem dX4_useSpare_76 : decode cX4_useSpare 76 = .ok (.invokestatic 55, 3) := by decide +kernel
theorem dX4_useSpare_79 : decode cX4_useSpare 79 = .ok (.aload_n 0, 1) := by decide +kernel
theorem dX4_useSpare_80 : decode cX4_useSpare 80 = .ok (.aload_n 0, 1) := by decide +kernel
theorem dX4_useSpare_81 : decode cX4_useSpare 81 = .ok (.getfield 11, 3) := by decide +kernel
theorem dX4_useSpare_84 : decode cX4_useSpare 84 = .ok (.iload_n 1, 1) := by decide +kernel
theorem dX4_useSpare_85 : decode cX4_useSpare 85 = .ok (.aaload, 1) := by decide +kernel
theorem dX4_useSpare_86 : decode cX4_useSpare 86 = .ok (.iload_n 3, 1) := by decide +kernel
theorem dX4_useSpare_87 : decode cX4_useSpare 87 = .ok (.iload_n 2, 1) := by decide +kernel
theorem dX4_useSpare_88 : decode cX4_useSpare 88 = .ok (.iload 4, 2) := by decide +kernel
theorem dX4_useSpare_90 : decode cX4_useSpare 90 = .ok (.invokevirtual 61, 3) := by decide +kernel
theorem dX4_useSpare_93 : decode cX4_useSpare 93 = .ok (.iconst 1, 1) := by decide +kernel
theorem dX4_useSpare_94 : decode cX4_useSpare 94 = .ok (.ireturn, 1) := by decide +kernel
set_option maxRecDepth 20000 in
theorem ggX4_giveBack_X4_entriesFor : GoodIn wsX4_giveBack wsX4_entriesFor := goodIn_r _ [7, 8, 1, 9, 10, 11, 12, 15, 16, 17, 18, 19, 20, 21, 22, 23, 24, 25, 26, 13, 14] rfl (by decide +kernel)
set_option maxRecDepth 20000 in
theorem gX4_giveBack_X4_entriesFor : GoodIn wsX4_giveBack (wsV RX4 41 RX4 yX4_entriesFor wsX4_entriesFor) := goodIn_app (goodIn_of _ (by decide +kernel)) ggX4_giveBack_X4_entriesFor
theorem dX4_giveBack_0 : decode cX4_giveBack 0 = .ok (.aload_n 0, 1) := by decide +kernel
theorem dX4_giveBack_1 : decode cX4_giveBack 1 = .ok (.aload_n 0, 1) := by decide +kernel
theorem dX4_giveBack_2 : decode cX4_giveBack 2 = .ok (.getfield 11, 3) := by decide +kernel
theorem dX4_giveBack_5 : decode cX4_giveBack 5 = .ok (.iload_n 1, 1) := by decide +kernel
theorem dX4_giveBack_6 : decode cX4_giveBack 6 = .ok (.aaload, 1) := by decide +kernel
theorem dX4_giveBack_7 : decode cX4_giveBack 7 = .ok (.iload_n 2, 1) := by decide +kernel
theorem dX4_giveBack_8 : decode cX4_giveBack 8 = .ok (.invokevirtual 41, 3) := by decide +kernel
theorem dX4_giveBack_11 : decode cX4_giveBack 11 = .ok (.astore_n 3, 1) := by decide +kernel
theorem dX4_giveBack_12 : decode cX4_giveBack 12 = .ok (.aload_n 3, 1) := by decide +kernel
theorem dX4_giveBack_13 : decode cX4_giveBack 13 = .ok (.ifnull 12, 3) := by decide +kernel
theorem dX4_giveBack_16 : decode cX4_giveBack 16 = .ok (.aload_n 3, 1) := by decide +kernel
theorem dX4_giveBack_17 : decode cX4_giveBack 17 = .ok (.iload_n 2, 1) := by decide +kernel
theorem dX4_giveBack_18 : decode cX4_giveBack 18 = .ok (.bipush 8, 2) := by decide +kernel
theorem dX4_giveBack_20 : decode cX4_giveBack 20 = .ok (.irem, 1) := by decide +kernel
theorem dX4_giveBack_21 : decode cX4_giveBack 21 = .ok (.iaload, 1) := by decide +kernel
theorem dX4_giveBack_22 : decode cX4_giveBack 22 = .ok (.ifCond .ne 5, 3) := by decide +kernel
theorem dX4_giveBack_25 : decode cX4_giveBack 25 = .ok (.iconst (-1), 1) := by decide +kernel
theorem dX4_giveBack_26 : decode cX4_giveBack 26 = .ok (.ireturn, 1) := by decide +kernel
theorem dX4_giveBack_27 : decode cX4_giveBack 27 = .ok (.aload_n 3, 1) := by decide +kernel
theorem dX4_giveBack_28 : decode cX4_giveBack 28 = .ok (.iload_n 2, 1) := by decide +kernel
theorem dX4_giveBack_29 : decode cX4_giveBack 29 = .ok (.bipush 8, 2) := by decide +kernel
theorem dX4_giveBack_31 : decode cX4_giveBack 31 = .ok (.irem, 1) := by decide +kernel
theorem dX4_giveBack_32 : decode cX4_giveBack 32 = .ok (.iaload, 1) := by decide +kernel
theorem dX4_giveBack_33 : decode cX4_giveBack 33 = .ok (.iconst 3, 1) := by decide +kernel
theorem dX4_giveBack_34 : decode cX4_giveBack 34 = .ok (.ishr, 1) := by decide +kernel
theorem dX4_giveBack_35 : decode cX4_giveBack 35 = .ok (.istore 4, 2) := by decide +kernel
theorem dX4_giveBack_37 : decode cX4_giveBack 37 = .ok (.iload 4, 2) := by decide +kernel
theorem dX4_giveBack_39 : decode cX4_giveBack 39 = .ok (.bipush 20, 2) := by decide +kernel
theorem dX4_giveBack_41 : decode cX4_giveBack 41 = .ok (.if_icmp .lt 5, 3) := by decide +kernel
theorem dX4_giveBack_44 : decode cX4_giveBack 44 = .ok (.iconst (-1), 1) := by decide +kernel
theorem dX4_giveBack_45 : decode cX4_giveBack 45 = .ok (.ireturn, 1) := by decide +kernel
theorem dX4_giveBack_46 : decode cX4_giveBack 46 = .ok (.aload_n 0, 1) := by decide +kernel
theorem dX4_giveBack_47 : decode cX4_giveBack 47 = .ok (.getfield 11, 3) := by decide +kernel
theorem dX4_giveBack_50 : decode cX4_giveBack 50 = .ok (.iload 4, 2) := by decide +kernel
theorem dX4_giveBack_52 : decode cX4_giveBack 52 = .ok (.aaload, 1) := by decide +kernel
theorem dX4_giveBack_53 : decode cX4_giveBack 53 = .ok (.iconst 5, 1) := by decide +kernel
theorem dX4_giveBack_54 : decode cX4_giveBack 54 = .ok (.putfield 23, 3) := by decide +kernel
theorem dX4_giveBack_57 : decode cX4_giveBack 57 = .ok (.aload_n 3, 1) := by decide +kernel
theorem dX4_giveBack_58 : decode cX4_giveBack 58 = .ok (.iload_n 2, 1) := by decide +kernel
theorem dX4_giveBack_59 : decode cX4_giveBack 59 = .ok (.bipush 8, 2) := by decide +kernel
theorem dX4_giveBack_61 : decode cX4_giveBack 61 = .ok (.irem, 1) := by decide +kernel
theorem dX4_giveBack_62 : decode cX4_giveBack 62 = .ok (.iconst 0, 1) := by decide +kernel
theorem dX4_giveBack_63 : decode cX4_giveBack 63 = .ok (.iastore, 1) := by decide +kernel
theorem dX4_giveBack_64 : decode cX4_giveBack 64 = .ok (.iload 4, 2) := by decide +kernel
theorem dX4_giveBack_66 : decode cX4_giveBack 66 = .ok (.ireturn, 1) := by decide +kernel
set_option maxRecDepth 20000 in
theorem ggX5_init_X1_init : GoodIn wsX5_init wsX1_init := goodIn_r _ [13, 14, 2, 3, 15, 16, 17, 18, 19, 20, 21, 22, 23, 24, 25, 26, 27, 28, 29, 30, 31, 32, 33, 34, 35, 36, 37, 38, 39, 40, 41, 42, 43, 44, 45, 46, 47, 48, 49, 50, 51, 52, 53, 54, 55, 56, 57, 58, 59, 60, 61, 62, 63, 64, 65, 66, 67, 68, 80, 81, 69, 70, 71, 72, 73, 74, 75, 76, 82, 83, 84, 85, 86, 87, 88, 89, 90, 91, 92, 93, 94, 95, 96, 97, 98] rfl (by decide +kernel)
set_option maxRecDepth 20000 in
theorem gX5_init_X1_init_n9 : GoodIn wsX5_init (wsX1_init) := ggX5_init_X1_init
theorem dX5_init_0 : decode cX5_init 0 = .ok (.aload_n 0, 1) := by decide +kernel
theorem dX5_init_1 : decode cX5_init 1 = .ok (.invokespecial 1, 3) := by decide +kernel
theorem dX5_init_4 : decode cX5_init 4 = .ok (.aload_n 0, 1) := by decide +kernel
theorem dX5_init_5 : decode cX5_init 5 = .ok (.new 7, 3) := by decide +kernel
theorem dX5_init_8 : decode cX5_init 8 = .ok (.dup, 1) := by decide +kernel
theorem dX5_init_9 : decode cX5_init 9 = .ok (.invokespecial 9, 3) := by decide +kernel
theorem dX5_init_12 : decode cX5_init 12 = .ok (.putfield 10, 3) := by decide +kernel
theorem dX5_init_15 : decode cX5_init 15 = .ok (.aload_n 0, 1) := by decide +kernel
theorem dX5_init_16 : decode cX5_init 16 = .ok (.aload_n 0, 1) := by decide +kernel
theorem dX5_init_17 : decode cX5_init 17 = .ok (.getfield 10, 3) := by decide +kernel
theorem dX5_init_20 : decode cX5_init 20 = .ok (.getfield 16, 3) := by decide +kernel
theorem dX5_init_23 : decode cX5_init 23 = .ok (.putfield 20, 3) := by decide +kernel
theorem dX5_init_26 : decode cX5_init 26 = .ok (.aload_n 0, 1) := by decide +kernel
theorem dX5_init_27 : decode cX5_init 27 = .ok (.aload_n 0, 1) := by decide +kernel
theorem dX5_init_28 : decode cX5_init 28 = .ok (.getfield 10, 3) := by decide +kernel
theorem dX5_init_31 : decode cX5_init 31 = .ok (.getfield 21, 3) := by decide +kernel
theorem dX5_init_34 : decode cX5_init 34 = .ok (.putfield 25, 3) := by decide +kernel
theorem dX5_init_37 : decode cX5_init 37 = .ok (.return_, 1) := by decide +kernel
set_option maxRecDepth 20000 in
theorem ggX5_key_X4_claim : GoodIn wsX5_key wsX4_claim := goodIn_r _ [12, 13, 14, 15, 30, 31, 32, 33, 34, 35, 36, 37, 38, 39, 40, 41, 42, 43] rfl (by decide +kernel)
set_option maxRecDepth 20000 in
theorem gX5_key_X4_claim : GoodIn wsX5_key (wsV RX5 35 RX4 yX4_claim wsX4_claim) := goodIn_app (goodIn_of _ (by decide +kernel)) ggX5_key_X4_claim
theorem dX5_key_0 : decode cX5_key 0 = .ok (.iload_n 1, 1) := by decide +kernel
theorem dX5_key_1 : decode cX5_key 1 = .ok (.ifCond .lt 9, 3) := by decide +kernel
theorem dX5_key_4 : decode cX5_key 4 = .ok (.iload_n 1, 1) := by decide +kernel
theorem dX5_key_5 : decode cX5_key 5 = .ok (.bipush 8, 2) := by decide +kernel
theorem dX5_key_7 : decode cX5_key 7 = .ok (.if_icmp .lt 11, 3) := by decide +kernel
theorem dX5_key_10 : decode cX5_key 10 = .ok (.new 26, 3) := by decide +kernel
theorem dX5_key_13 : decode cX5_key 13 = .ok (.dup, 1) := by decide +kernel
theorem dX5_key_14 : decode cX5_key 14 = .ok (.invokespecial 28, 3) := by decide +kernel
theorem dX5_key_17 : decode cX5_key 17 = .ok (.athrow, 1) := by decide +kernel
theorem dX5_key_18 : decode cX5_key 18 = .ok (.aload_n 0, 1) := by decide +kernel
theorem dX5_key_19 : decode cX5_key 19 = .ok (.getfield 25, 3) := by decide +kernel
theorem dX5_key_22 : decode cX5_key 22 = .ok (.getfield 29, 3) := by decide +kernel
theorem dX5_key_25 : decode cX5_key 25 = .ok (.iload_n 1, 1) := by decide +kernel
theorem dX5_key_26 : decode cX5_key 26 = .ok (.iload_n 2, 1) := by decide +kernel
theorem dX5_key_27 : decode cX5_key 27 = .ok (.iastore, 1) := by decide +kernel
theorem dX5_key_28 : decode cX5_key 28 = .ok (.iconst 0, 1) := by decide +kernel
theorem dX5_key_29 : decode cX5_key 29 = .ok (.istore_n 3, 1) := by decide +kernel
theorem dX5_key_30 : decode cX5_key 30 = .ok (.iload_n 3, 1) := by decide +kernel
theorem dX5_key_31 : decode cX5_key 31 = .ok (.bipush 20, 2) := by decide +kernel
theorem dX5_key_33 : decode cX5_key 33 = .ok (.if_icmp .ge 20, 3) := by decide +kernel
theorem dX5_key_36 : decode cX5_key 36 = .ok (.aload_n 0, 1) := by decide +kernel
theorem dX5_key_37 : decode cX5_key 37 = .ok (.getfield 20, 3) := by decide +kernel
theorem dX5_key_40 : decode cX5_key 40 = .ok (.iload_n 3, 1) := by decide +kernel
theorem dX5_key_41 : decode cX5_key 41 = .ok (.iconst 0, 1) := by decide +kernel
theorem dX5_key_42 : decode cX5_key 42 = .ok (.iconst (-1), 1) := by decide +kernel
theorem dX5_key_43 : decode cX5_key 43 = .ok (.invokevirtual 35, 3) := by decide +kernel
theorem dX5_key_46 : decode cX5_key 46 = .ok (.pop, 1) := by decide +kernel
theorem dX5_key_47 : decode cX5_key 47 = .ok (.iinc 3 1, 3) := by decide +kernel
theorem dX5_key_50 : decode cX5_key 50 = .ok (.goto (-20), 3) := by decide +kernel
theorem dX5_key_53 : decode cX5_key 53 = .ok (.aload_n 0, 1) := by decide +kernel
theorem dX5_key_54 : decode cX5_key 54 = .ok (.getfield 10, 3) := by decide +kernel
theorem dX5_key_57 : decode cX5_key 57 = .ok (.iconst 0, 1) := by decide +kernel
theorem dX5_key_58 : decode cX5_key 58 = .ok (.putfield 41, 3) := by decide +kernel
theorem dX5_key_61 : decode cX5_key 61 = .ok (.return_, 1) := by decide +kernel
set_option maxRecDepth 20000 in
theorem ggX5_poke_X5_isFrame : GoodIn wsX5_poke wsX5_isFrame := goodIn_r _ [7] rfl (by decide +kernel)
set_option maxRecDepth 20000 in
theorem gX5_poke_X5_isFrame : GoodIn wsX5_poke (va_wsS RX5 45 yX5_isFrame wsX5_isFrame) := goodIn_app (goodIn_of _ (by decide +kernel)) ggX5_poke_X5_isFrame
set_option maxRecDepth 20000 in
theorem ggX5_poke_X5_isWord : GoodIn wsX5_poke wsX5_isWord := goodIn_r _ [10] rfl (by decide +kernel)
set_option maxRecDepth 20000 in
theorem gX5_poke_X5_isWord : GoodIn wsX5_poke (va_wsS RX5 49 yX5_isWord wsX5_isWord) := goodIn_app (goodIn_of _ (by decide +kernel)) ggX5_poke_X5_isWord
set_option maxRecDepth 20000 in
theorem ggX5_poke_X4_frameRow : GoodIn wsX5_poke wsX4_frameRow := goodIn_r _ [15, 16, 20, 21] rfl (by decide +kernel)
set_option maxRecDepth 20000 in
theorem gX5_poke_X4_frameRow : GoodIn wsX5_poke (wsV RX5 52 RX4 yX4_frameRow wsX4_frameRow) := goodIn_app (goodIn_of _ (by decide +kernel)) ggX5_poke_X4_frameRow
theorem dX5_poke_0 : decode cX5_poke 0 = .ok (.iload_n 1, 1) := by decide +kernel
theorem dX5_poke_1 : decode cX5_poke 1 = .ok (.invokestatic 45, 3) := by decide +kernel
theorem dX5_poke_4 : decode cX5_poke 4 = .ok (.ifCond .eq 10, 3) := by decide +kernel
theorem dX5_poke_7 : decode cX5_poke 7 = .ok (.iload_n 2, 1) := by decide +kernel
theorem dX5_poke_8 : decode cX5_poke 8 = .ok (.invokestatic 49, 3) := by decide +kernel
theorem dX5_poke_11 : decode cX5_poke 11 = .ok (.ifCond .ne 11, 3) := by decide +kernel
theorem dX5_poke_14 : decode cX5_poke 14 = .ok (.new 26, 3) := by decide +kernel
theorem dX5_poke_17 : decode cX5_poke 17 = .ok (.dup, 1) := by decide +kernel
theorem dX5_poke_18 : decode cX5_poke 18 = .ok (.invokespecial 28, 3) := by decide +kernel
theorem dX5_poke_21 : decode cX5_poke 21 = .ok (.athrow, 1) := by decide +kernel
theorem dX5_poke_22 : decode cX5_poke 22 = .ok (.aload_n 0, 1) := by decide +kernel
theorem dX5_poke_23 : decode cX5_poke 23 = .ok (.getfield 20, 3) := by decide +kernel
theorem dX5_poke_26 : decode cX5_poke 26 = .ok (.iload_n 1, 1) := by decide +kernel
theorem dX5_poke_27 : decode cX5_poke 27 = .ok (.invokevirtual 52, 3) := by decide +kernel
theorem dX5_poke_30 : decode cX5_poke 30 = .ok (.astore 4, 2) := by decide +kernel
theorem dX5_poke_32 : decode cX5_poke 32 = .ok (.aload 4, 2) := by decide +kernel
theorem dX5_poke_34 : decode cX5_poke 34 = .ok (.iload_n 2, 1) := by decide +kernel
theorem dX5_poke_35 : decode cX5_poke 35 = .ok (.iaload, 1) := by decide +kernel
theorem dX5_poke_36 : decode cX5_poke 36 = .ok (.istore 5, 2) := by decide +kernel
theorem dX5_poke_38 : decode cX5_poke 38 = .ok (.aload 4, 2) := by decide +kernel
theorem dX5_poke_40 : decode cX5_poke 40 = .ok (.iload_n 2, 1) := by decide +kernel
theorem dX5_poke_41 : decode cX5_poke 41 = .ok (.iload_n 3, 1) := by decide +kernel
theorem dX5_poke_42 : decode cX5_poke 42 = .ok (.iastore, 1) := by decide +kernel
theorem dX5_poke_43 : decode cX5_poke 43 = .ok (.iload 5, 2) := by decide +kernel
theorem dX5_poke_45 : decode cX5_poke 45 = .ok (.ireturn, 1) := by decide +kernel
set_option maxRecDepth 20000 in
theorem ggX5_peek_X5_isFrame : GoodIn wsX5_peek wsX5_isFrame := goodIn_r _ [7] rfl (by decide +kernel)
set_option maxRecDepth 20000 in
theorem gX5_peek_X5_isFrame : GoodIn wsX5_peek (va_wsS RX5 45 yX5_isFrame wsX5_isFrame) := goodIn_app (goodIn_of _ (by decide +kernel)) ggX5_peek_X5_isFrame
set_option maxRecDepth 20000 in
theorem ggX5_peek_X5_isWord : GoodIn wsX5_peek wsX5_isWord := goodIn_r _ [10] rfl (by decide +kernel)
set_option maxRecDepth 20000 in
theorem gX5_peek_X5_isWord : GoodIn wsX5_peek (va_wsS RX5 49 yX5_isWord wsX5_isWord) := goodIn_app (goodIn_of _ (by decide +kernel)) ggX5_peek_X5_isWord
set_option maxRecDepth 20000 in
theorem ggX5_peek_X4_frameRow : GoodIn wsX5_peek wsX4_frameRow := goodIn_r _ [15, 16, 20, 21] rfl (by decide +kernel)
set_option maxRecDepth 20000 in
theorem gX5_peek_X4_frameRow : GoodIn wsX5_peek (wsV RX5 52 RX4 yX4_frameRow wsX4_frameRow) := goodIn_app (goodIn_of _ (by decide +kernel)) ggX5_peek_X4_frameRow
theorem dX5_peek_0 : decode cX5_peek 0 = .ok (.iload_n 1, 1) := by decide +kernel
theorem dX5_peek_1 : decode cX5_peek 1 = .ok (.invokestatic 45, 3) := by decide +kernel
theorem dX5_peek_4 : decode cX5_peek 4 = .ok (.ifCond .eq 10, 3) := by decide +kernel
theorem dX5_peek_7 : decode cX5_peek 7 = .ok (.iload_n 2, 1) := by decide +kernel
theorem dX5_peek_8 : decode cX5_peek 8 = .ok (.invokestatic 49, 3) := by decide +kernel
theorem dX5_peek_11 : decode cX5_peek 11 = .ok (.ifCond .ne 11, 3) := by decide +kernel
theorem dX5_peek_14 : decode cX5_peek 14 = .ok (.new 26, 3) := by decide +kernel
theorem dX5_peek_17 : decode cX5_peek 17 = .ok (.dup, 1) := by decide +kernel
theorem dX5_peek_18 : decode cX5_peek 18 = .ok (.invokespecial 28, 3) := by decide +kernel
theorem dX5_peek_21 : decode cX5_peek 21 = .ok (.athrow, 1) := by decide +kernel
theorem dX5_peek_22 : decode cX5_peek 22 = .ok (.aload_n 0, 1) := by decide +kernel
theorem dX5_peek_23 : decode cX5_peek 23 = .ok (.getfield 20, 3) := by decide +kernel
theorem dX5_peek_26 : decode cX5_peek 26 = .ok (.iload_n 1, 1) := by decide +kernel
theorem dX5_peek_27 : decode cX5_peek 27 = .ok (.invokevirtual 52, 3) := by decide +kernel
theorem dX5_peek_30 : decode cX5_peek 30 = .ok (.iload_n 2, 1) := by decide +kernel
theorem dX5_peek_31 : decode cX5_peek 31 = .ok (.iaload, 1) := by decide +kernel
theorem dX5_peek_32 : decode cX5_peek 32 = .ok (.ireturn, 1) := by decide +kernel
set_option maxRecDepth 20000 in
theorem ggX5_space_X5_isPage : GoodIn wsX5_space wsX5_isPage := goodIn_r _ [10] rfl (by decide +kernel)
set_option maxRecDepth 20000 in
theorem gX5_space_X5_isPage : GoodIn wsX5_space (va_wsS RX5 56 yX5_isPage wsX5_isPage) := goodIn_app (goodIn_of _ (by decide +kernel)) ggX5_space_X5_isPage
set_option maxRecDepth 20000 in
theorem ggX5_space_X4_claim : GoodIn wsX5_space wsX4_claim := goodIn_r _ [15, 16, 17, 18, 45, 46, 47, 48, 49, 50, 51, 52, 53, 54, 55, 56, 57, 58] rfl (by decide +kernel)
set_option maxRecDepth 20000 in
theorem gX5_space_X4_claim : GoodIn wsX5_space (wsV RX5 35 RX4 yX4_claim wsX4_claim) := goodIn_app (goodIn_of _ (by decide +kernel)) ggX5_space_X4_claim
set_option maxRecDepth 20000 in
theorem ggX5_space_J7_fill_53178 : GoodIn wsX5_space wsJ7_fill_53178 := goodIn_r _ [22] rfl (by decide +kernel)
set_option maxRecDepth 20000 in
theorem gX5_space_J7_fill_53178 : GoodIn wsX5_space (va_wsS RX5 74 yJ7_fill_53178 wsJ7_fill_53178) := goodIn_app (goodIn_of _ (by decide +kernel)) ggX5_space_J7_fill_53178
set_option maxRecDepth 20000 in
theorem ggX5_space_X2_open : GoodIn wsX5_space wsX2_open := goodIn_r _ [27, 28, 29, 30, 31, 32, 33, 34, 35, 36, 37, 38, 39, 40, 41, 47, 48, 49, 50, 51, 52, 53, 54, 55, 56, 57, 58, 59, 60, 61] rfl (by decide +kernel)
set_option maxRecDepth 20000 in
theorem gX5_space_X2_open : GoodIn wsX5_space (wsV RX5 80 RX2 yX2_open wsX2_open) := goodIn_app (goodIn_of _ (by decide +kernel)) ggX5_space_X2_open
theorem dX5_space_0 : decode cX5_space 0 = .ok (.iload_n 1, 1) := by decide +kernel
theorem dX5_space_1 : decode cX5_space 1 = .ok (.invokestatic 56, 3) := by decide +kernel
theorem dX5_space_4 : decode cX5_space 4 = .ok (.ifCond .ne 5, 3) := by decide +kernel
theorem dX5_space_7 : decode cX5_space 7 = .ok (.iconst 1, 1) := by decide +kernel
theorem dX5_space_8 : decode cX5_space 8 = .ok (.ireturn, 1) := by decide +kernel
theorem dX5_space_9 : decode cX5_space 9 = .ok (.aload_n 0, 1) := by decide +kernel
theorem dX5_space_10 : decode cX5_space 10 = .ok (.getfield 20, 3) := by decide +kernel
theorem dX5_space_13 : decode cX5_space 13 = .ok (.getfield 59, 3) := by decide +kernel
theorem dX5_space_16 : decode cX5_space 16 = .ok (.iload_n 1, 1) := by decide +kernel
theorem dX5_space_17 : decode cX5_space 17 = .ok (.aaload, 1) := by decide +kernel
theorem dX5_space_18 : decode cX5_space 18 = .ok (.getfield 63, 3) := by decide +kernel
theorem dX5_space_21 : decode cX5_space 21 = .ok (.ifCond .eq 5, 3) := by decide +kernel
theorem dX5_space_24 : decode cX5_space 24 = .ok (.iconst 2, 1) := by decide +kernel
theorem dX5_space_25 : decode cX5_space 25 = .ok (.ireturn, 1) := by decide +kernel
theorem dX5_space_26 : decode cX5_space 26 = .ok (.aload_n 0, 1) := by decide +kernel
theorem dX5_space_27 : decode cX5_space 27 = .ok (.getfield 20, 3) := by decide +kernel
theorem dX5_space_30 : decode cX5_space 30 = .ok (.iload_n 1, 1) := by decide +kernel
theorem dX5_space_31 : decode cX5_space 31 = .ok (.iconst 1, 1) := by decide +kernel
theorem dX5_space_32 : decode cX5_space 32 = .ok (.iconst (-1), 1) := by decide +kernel
theorem dX5_space_33 : decode cX5_space 33 = .ok (.invokevirtual 35, 3) := by decide +kernel
theorem dX5_space_36 : decode cX5_space 36 = .ok (.astore_n 2, 1) := by decide +kernel
theorem dX5_space_37 : decode cX5_space 37 = .ok (.aload_n 2, 1) := by decide +kernel
theorem dX5_space_38 : decode cX5_space 38 = .ok (.iconst 0, 1) := by decide +kernel
theorem dX5_space_39 : decode cX5_space 39 = .ok (.putfield 68, 3) := by decide +kernel
theorem dX5_space_42 : decode cX5_space 42 = .ok (.aload_n 2, 1) := by decide +kernel
theorem dX5_space_43 : decode cX5_space 43 = .ok (.getfield 71, 3) := by decide +kernel
theorem dX5_space_46 : decode cX5_space 46 = .ok (.iconst (-1), 1) := by decide +kernel
theorem dX5_space_47 : decode cX5_space 47 = .ok (.invokestatic 74, 3) := by decide +kernel
theorem dX5_space_50 : decode cX5_space 50 = .ok (.aload_n 0, 1) := by decide +kernel
theorem dX5_space_51 : decode cX5_space 51 = .ok (.getfield 25, 3) := by decide +kernel
theorem dX5_space_54 : decode cX5_space 54 = .ok (.aload_n 2, 1) := by decide +kernel
theorem dX5_space_55 : decode cX5_space 55 = .ok (.invokevirtual 80, 3) := by decide +kernel
theorem dX5_space_58 : decode cX5_space 58 = .ok (.iconst 0, 1) := by decide +kernel
theorem dX5_space_59 : decode cX5_space 59 = .ok (.ireturn, 1) := by decide +kernel
set_option maxRecDepth 20000 in
theorem ggX5_thread_X5_isPage : GoodIn wsX5_thread wsX5_isPage := goodIn_r _ [9] rfl (by decide +kernel)
set_option maxRecDepth 20000 in
theorem gX5_thread_X5_isPage : GoodIn wsX5_thread (va_wsS RX5 56 yX5_isPage wsX5_isPage) := goodIn_app (goodIn_of _ (by decide +kernel)) ggX5_thread_X5_isPage
set_option maxRecDepth 20000 in
theorem ggX5_thread_X5_refusalOfNew : GoodIn wsX5_thread wsX5_refusalOfNew := goodIn_r _ [13, 1, 5, 14, 15, 16, 17, 8, 18, 19, 60, 61, 62, 75, 76, 63, 64, 65, 66, 67, 68, 69, 70, 71, 72, 73, 74] rfl (by decide +kernel)
set_option maxRecDepth 20000 in
theorem gX5_thread_X5_refusalOfNew : GoodIn wsX5_thread (wsV RX5 84 RX5 yX5_refusalOfNew wsX5_refusalOfNew) := goodIn_app (goodIn_of _ (by decide +kernel)) ggX5_thread_X5_refusalOfNew
set_option maxRecDepth 20000 in
theorem ggX5_thread_X4_claim : GoodIn wsX5_thread wsX4_claim := goodIn_r _ [24, 25, 26, 27, 75, 76, 63, 64, 65, 66, 67, 68, 69, 70, 71, 72, 73, 74] rfl (by decide +kernel)
set_option maxRecDepth 20000 in
theorem gX5_thread_X4_claim : GoodIn wsX5_thread (wsV RX5 35 RX4 yX4_claim wsX4_claim) := goodIn_app (goodIn_of _ (by decide +kernel)) ggX5_thread_X4_claim
set_option maxRecDepth 20000 in
theorem ggX5_thread_X2_tell : GoodIn wsX5_thread wsX2_tell := goodIn_r _ [32, 33, 34, 35, 36, 37, 38, 39, 40, 31, 41, 42, 43, 44, 45, 46, 47, 48, 49, 50, 51, 52, 53, 54, 55, 56, 57, 58, 59, 77, 78, 79, 63, 64, 65, 66, 67, 68, 69, 70, 71, 72, 73, 74, 80, 81] rfl (by decide +kernel)
set_option maxRecDepth 20000 in
theorem gX5_thread_X2_tell : GoodIn wsX5_thread (wsV RX5 95 RX2 yX2_tell wsX2_tell) := goodIn_app (goodIn_of _ (by decide +kernel)) ggX5_thread_X2_tell
theorem dX5_thread_0 : decode cX5_thread 0 = .ok (.iload_n 1, 1) := by decide +kernel
theorem dX5_thread_1 : decode cX5_thread 1 = .ok (.invokestatic 56, 3) := by decide +kernel
theorem dX5_thread_4 : decode cX5_thread 4 = .ok (.ifCond .eq 21, 3) := by decide +kernel
theorem dX5_thread_7 : decode cX5_thread 7 = .ok (.iload_n 2, 1) := by decide +kernel
theorem dX5_thread_8 : decode cX5_thread 8 = .ok (.invokestatic 56, 3) := by decide +kernel
theorem dX5_thread_11 : decode cX5_thread 11 = .ok (.ifCond .eq 14, 3) := by decide +kernel
theorem dX5_thread_14 : decode cX5_thread 14 = .ok (.iload_n 3, 1) := by decide +kernel
theorem dX5_thread_15 : decode cX5_thread 15 = .ok (.ifCond .lt 10, 3) := by decide +kernel
theorem dX5_thread_18 : decode cX5_thread 18 = .ok (.iload_n 3, 1) := by decide +kernel
theorem dX5_thread_19 : decode cX5_thread 19 = .ok (.sipush 512, 3) := by decide +kernel
theorem dX5_thread_22 : decode cX5_thread 22 = .ok (.if_icmp .lt 5, 3) := by decide +kernel
theorem dX5_thread_25 : decode cX5_thread 25 = .ok (.iconst 1, 1) := by decide +kernel
theorem dX5_thread_26 : decode cX5_thread 26 = .ok (.ireturn, 1) := by decide +kernel
theorem dX5_thread_27 : decode cX5_thread 27 = .ok (.aload_n 0, 1) := by decide +kernel
theorem dX5_thread_28 : decode cX5_thread 28 = .ok (.iload_n 1, 1) := by decide +kernel
theorem dX5_thread_29 : decode cX5_thread 29 = .ok (.iload_n 2, 1) := by decide +kernel
theorem dX5_thread_30 : decode cX5_thread 30 = .ok (.iconst 0, 1) := by decide +kernel
theorem dX5_thread_31 : decode cX5_thread 31 = .ok (.invokevirtual 84, 3) := by decide +kernel
theorem dX5_thread_34 : decode cX5_thread 34 = .ok (.istore 4, 2) := by decide +kernel
theorem dX5_thread_36 : decode cX5_thread 36 = .ok (.iload 4, 2) := by decide +kernel
theorem dX5_thread_38 : decode cX5_thread 38 = .ok (.ifCond .eq 6, 3) := by decide +kernel
theorem dX5_thread_41 : decode cX5_thread 41 = .ok (.iload 4, 2) := by decide +kernel
theorem dX5_thread_43 : decode cX5_thread 43 = .ok (.ireturn, 1) := by decide +kernel
theorem dX5_thread_44 : decode cX5_thread 44 = .ok (.aload_n 0, 1) := by decide +kernel
theorem dX5_thread_45 : decode cX5_thread 45 = .ok (.getfield 20, 3) := by decide +kernel
theorem dX5_thread_48 : decode cX5_thread 48 = .ok (.iload_n 1, 1) := by decide +kernel
theorem dX5_thread_49 : decode cX5_thread 49 = .ok (.iconst 2, 1) := by decide +kernel
theorem dX5_thread_50 : decode cX5_thread 50 = .ok (.iload_n 2, 1) := by decide +kernel
theorem dX5_thread_51 : decode cX5_thread 51 = .ok (.invokevirtual 35, 3) := by decide +kernel
theorem dX5_thread_54 : decode cX5_thread 54 = .ok (.astore 5, 2) := by decide +kernel
theorem dX5_thread_56 : decode cX5_thread 56 = .ok (.aload 5, 2) := by decide +kernel
theorem dX5_thread_58 : decode cX5_thread 58 = .ok (.iload_n 3, 1) := by decide +kernel
theorem dX5_thread_59 : decode cX5_thread 59 = .ok (.putfield 88, 3) := by decide +kernel
theorem dX5_thread_62 : decode cX5_thread 62 = .ok (.aload 5, 2) := by decide +kernel
theorem dX5_thread_64 : decode cX5_thread 64 = .ok (.iconst 0, 1) := by decide +kernel
theorem dX5_thread_65 : decode cX5_thread 65 = .ok (.putfield 91, 3) := by decide +kernel
theorem dX5_thread_68 : decode cX5_thread 68 = .ok (.aload_n 0, 1) := by decide +kernel
theorem dX5_thread_69 : decode cX5_thread 69 = .ok (.getfield 25, 3) := by decide +kernel
theorem dX5_thread_72 : decode cX5_thread 72 = .ok (.aload_n 0, 1) := by decide +kernel
theorem dX5_thread_73 : decode cX5_thread 73 = .ok (.getfield 20, 3) := by decide +kernel
theorem dX5_thread_76 : decode cX5_thread 76 = .ok (.getfield 59, 3) := by decide +kernel
theorem dX5_thread_79 : decode cX5_thread 79 = .ok (.iload_n 2, 1) := by decide +kernel
theorem dX5_thread_80 : decode cX5_thread 80 = .ok (.aaload, 1) := by decide +kernel
theorem dX5_thread_81 : decode cX5_thread 81 = .ok (.iconst 1, 1) := by decide +kernel
theorem dX5_thread_82 : decode cX5_thread 82 = .ok (.iload_n 3, 1) := by decide +kernel
theorem dX5_thread_83 : decode cX5_thread 83 = .ok (.iconst 0, 1) := by decide +kernel
theorem dX5_thread_84 : decode cX5_thread 84 = .ok (.invokevirtual 95, 3) := by decide +kernel
theorem dX5_thread_87 : decode cX5_thread 87 = .ok (.iconst 0, 1) := by decide +kernel
theorem dX5_thread_88 : decode cX5_thread 88 = .ok (.ireturn, 1) := by decide +kernel
set_option maxRecDepth 20000 in
theorem ggX5_table_X5_isPage : GoodIn wsX5_table wsX5_isPage := goodIn_r _ [8] rfl (by decide +kernel)
set_option maxRecDepth 20000 in
theorem gX5_table_X5_isPage : GoodIn wsX5_table (va_wsS RX5 56 yX5_isPage wsX5_isPage) := goodIn_app (goodIn_of _ (by decide +kernel)) ggX5_table_X5_isPage
set_option maxRecDepth 20000 in
theorem ggX5_table_X5_refusalOfNew : GoodIn wsX5_table wsX5_refusalOfNew := goodIn_r _ [12, 1, 2, 13, 14, 15, 16, 7, 17, 18, 31, 32, 33, 34, 35, 36, 37, 38, 39, 40, 41, 42, 43, 44, 45, 46, 47] rfl (by decide +kernel)
set_option maxRecDepth 20000 in
theorem gX5_table_X5_refusalOfNew : GoodIn wsX5_table (wsV RX5 84 RX5 yX5_refusalOfNew wsX5_refusalOfNew) := goodIn_app (goodIn_of _ (by decide +kernel)) ggX5_table_X5_refusalOfNew
set_option maxRecDepth 20000 in
theorem ggX5_table_X4_claim : GoodIn wsX5_table wsX4_claim := goodIn_r _ [23, 24, 25, 26, 34, 35, 36, 37, 38, 39, 40, 41, 42, 43, 44, 45, 46, 47] rfl (by decide +kernel)
set_option maxRecDepth 20000 in
theorem gX5_table_X4_claim : GoodIn wsX5_table (wsV RX5 35 RX4 yX4_claim wsX4_claim) := goodIn_app (goodIn_of _ (by decide +kernel)) ggX5_table_X4_claim
set_option maxRecDepth 20000 in
theorem ggX5_table_J7_fill_53178 : GoodIn wsX5_table wsJ7_fill_53178 := goodIn_r _ [30] rfl (by decide +kernel)
set_option maxRecDepth 20000 in
theorem gX5_table_J7_fill_53178 : GoodIn wsX5_table (va_wsS RX5 74 yJ7_fill_53178 wsJ7_fill_53178) := goodIn_app (goodIn_of _ (by decide +kernel)) ggX5_table_J7_fill_53178
theorem dX5_table_0 : decode cX5_table 0 = .ok (.iload_n 1, 1) := by decide +kernel
theorem dX5_table_1 : decode cX5_table 1 = .ok (.invokestatic 56, 3) := by decide +kernel
theorem dX5_table_4 : decode cX5_table 4 = .ok (.ifCond .eq 19, 3) := by decide +kernel
theorem dX5_table_7 : decode cX5_table 7 = .ok (.iload_n 2, 1) := by decide +kernel
theorem dX5_table_8 : decode cX5_table 8 = .ok (.invokestatic 56, 3) := by decide +kernel
theorem dX5_table_11 : decode cX5_table 11 = .ok (.ifCond .eq 12, 3) := by decide +kernel
theorem dX5_table_14 : decode cX5_table 14 = .ok (.iload_n 3, 1) := by decide +kernel
theorem dX5_table_15 : decode cX5_table 15 = .ok (.ifCond .lt 8, 3) := by decide +kernel
theorem dX5_table_18 : decode cX5_table 18 = .ok (.iload_n 3, 1) := by decide +kernel
theorem dX5_table_19 : decode cX5_table 19 = .ok (.iconst 4, 1) := by decide +kernel
theorem dX5_table_20 : decode cX5_table 20 = .ok (.if_icmp .lt 5, 3) := by decide +kernel
theorem dX5_table_23 : decode cX5_table 23 = .ok (.iconst 1, 1) := by decide +kernel
theorem dX5_table_24 : decode cX5_table 24 = .ok (.ireturn, 1) := by decide +kernel
theorem dX5_table_25 : decode cX5_table 25 = .ok (.aload_n 0, 1) := by decide +kernel
theorem dX5_table_26 : decode cX5_table 26 = .ok (.iload_n 1, 1) := by decide +kernel
theorem dX5_table_27 : decode cX5_table 27 = .ok (.iload_n 2, 1) := by decide +kernel
theorem dX5_table_28 : decode cX5_table 28 = .ok (.iconst 0, 1) := by decide +kernel
theorem dX5_table_29 : decode cX5_table 29 = .ok (.invokevirtual 84, 3) := by decide +kernel
theorem dX5_table_32 : decode cX5_table 32 = .ok (.istore 4, 2) := by decide +kernel
theorem dX5_table_34 : decode cX5_table 34 = .ok (.iload 4, 2) := by decide +kernel
theorem dX5_table_36 : decode cX5_table 36 = .ok (.ifCond .eq 6, 3) := by decide +kernel
theorem dX5_table_39 : decode cX5_table 39 = .ok (.iload 4, 2) := by decide +kernel
theorem dX5_table_41 : decode cX5_table 41 = .ok (.ireturn, 1) := by decide +kernel
theorem dX5_table_42 : decode cX5_table 42 = .ok (.aload_n 0, 1) := by decide +kernel
theorem dX5_table_43 : decode cX5_table 43 = .ok (.getfield 20, 3) := by decide +kernel
theorem dX5_table_46 : decode cX5_table 46 = .ok (.getfield 59, 3) := by decide +kernel
theorem dX5_table_49 : decode cX5_table 49 = .ok (.iload_n 2, 1) := by decide +kernel
theorem dX5_table_50 : decode cX5_table 50 = .ok (.aaload, 1) := by decide +kernel
theorem dX5_table_51 : decode cX5_table 51 = .ok (.getfield 71, 3) := by decide +kernel
theorem dX5_table_54 : decode cX5_table 54 = .ok (.astore 5, 2) := by decide +kernel
theorem dX5_table_56 : decode cX5_table 56 = .ok (.aload 5, 2) := by decide +kernel
theorem dX5_table_58 : decode cX5_table 58 = .ok (.iload_n 3, 1) := by decide +kernel
theorem dX5_table_59 : decode cX5_table 59 = .ok (.iaload, 1) := by decide +kernel
theorem dX5_table_60 : decode cX5_table 60 = .ok (.iconst (-1), 1) := by decide +kernel
theorem dX5_table_61 : decode cX5_table 61 = .ok (.if_icmp .eq 5, 3) := by decide +kernel
theorem dX5_table_64 : decode cX5_table 64 = .ok (.iconst 5, 1) := by decide +kernel
theorem dX5_table_65 : decode cX5_table 65 = .ok (.ireturn, 1) := by decide +kernel
theorem dX5_table_66 : decode cX5_table 66 = .ok (.aload 5, 2) := by decide +kernel
theorem dX5_table_68 : decode cX5_table 68 = .ok (.iload_n 3, 1) := by decide +kernel
theorem dX5_table_69 : decode cX5_table 69 = .ok (.iload_n 1, 1) := by decide +kernel
theorem dX5_table_70 : decode cX5_table 70 = .ok (.iastore, 1) := by decide +kernel
theorem dX5_table_71 : decode cX5_table 71 = .ok (.aload_n 0, 1) := by decide +kernel
theorem dX5_table_72 : decode cX5_table 72 = .ok (.getfield 20, 3) := by decide +kernel
theorem dX5_table_75 : decode cX5_table 75 = .ok (.iload_n 1, 1) := by decide +kernel
theorem dX5_table_76 : decode cX5_table 76 = .ok (.iconst 3, 1) := by decide +kernel
theorem dX5_table_77 : decode cX5_table 77 = .ok (.iload_n 2, 1) := by decide +kernel
theorem dX5_table_78 : decode cX5_table 78 = .ok (.invokevirtual 35, 3) := by decide +kernel
theorem dX5_table_81 : decode cX5_table 81 = .ok (.getfield 99, 3) := by decide +kernel
theorem dX5_table_84 : decode cX5_table 84 = .ok (.iconst 0, 1) := by decide +kernel
theorem dX5_table_85 : decode cX5_table 85 = .ok (.invokestatic 74, 3) := by decide +kernel
theorem dX5_table_88 : decode cX5_table 88 = .ok (.iconst 0, 1) := by decide +kernel
theorem dX5_table_89 : decode cX5_table 89 = .ok (.ireturn, 1) := by decide +kernel
set_option maxRecDepth 20000 in
theorem ggX5_data_X5_isPage : GoodIn wsX5_data wsX5_isPage := goodIn_r _ [12] rfl (by decide +kernel)
set_option maxRecDepth 20000 in
theorem gX5_data_X5_isPage : GoodIn wsX5_data (va_wsS RX5 56 yX5_isPage wsX5_isPage) := goodIn_app (goodIn_of _ (by decide +kernel)) ggX5_data_X5_isPage
set_option maxRecDepth 20000 in
theorem ggX5_data_X5_isBlock : GoodIn wsX5_data wsX5_isBlock := goodIn_r _ [15] rfl (by decide +kernel)
set_option maxRecDepth 20000 in
theorem gX5_data_X5_isBlock : GoodIn wsX5_data (va_wsS RX5 102 yX5_isBlock wsX5_isBlock) := goodIn_app (goodIn_of _ (by decide +kernel)) ggX5_data_X5_isBlock
set_option maxRecDepth 20000 in
theorem ggX5_data_X5_isFrame : GoodIn wsX5_data wsX5_isFrame := goodIn_r _ [18] rfl (by decide +kernel)
set_option maxRecDepth 20000 in
theorem gX5_data_X5_isFrame : GoodIn wsX5_data (va_wsS RX5 45 yX5_isFrame wsX5_isFrame) := goodIn_app (goodIn_of _ (by decide +kernel)) ggX5_data_X5_isFrame
set_option maxRecDepth 20000 in
theorem ggX5_data_X5_areDataRights : GoodIn wsX5_data wsX5_areDataRights := goodIn_r _ [21] rfl (by decide +kernel)
set_option maxRecDepth 20000 in
theorem gX5_data_X5_areDataRights : GoodIn wsX5_data (va_wsS RX5 105 yX5_areDataRights wsX5_areDataRights) := goodIn_app (goodIn_of _ (by decide +kernel)) ggX5_data_X5_areDataRights
set_option maxRecDepth 20000 in
theorem ggX5_data_X5_refusalOfNew : GoodIn wsX5_data wsX5_refusalOfNew := goodIn_r _ [25, 1, 2, 26, 27, 28, 29, 11, 30, 31, 89, 90, 91, 92, 93, 94, 95, 96, 97, 98, 99, 100, 101, 102, 103, 104, 105] rfl (by decide +kernel)
set_option maxRecDepth 20000 in
theorem gX5_data_X5_refusalOfNew : GoodIn wsX5_data (wsV RX5 84 RX5 yX5_refusalOfNew wsX5_refusalOfNew) := goodIn_app (goodIn_of _ (by decide +kernel)) ggX5_data_X5_refusalOfNew
set_option maxRecDepth 20000 in
theorem ggX5_data_X4_hasRoom : GoodIn wsX5_data wsX4_hasRoom := goodIn_r _ [36, 37, 38, 39, 35, 40, 41, 42, 43, 14, 11, 15, 94, 95, 96, 97, 98, 99, 100, 101, 102, 103, 104, 105, 92, 93] rfl (by decide +kernel)
set_option maxRecDepth 20000 in
theorem gX5_data_X4_hasRoom : GoodIn wsX5_data (wsV RX5 108 RX4 yX4_hasRoom wsX4_hasRoom) := goodIn_app (goodIn_of _ (by decide +kernel)) ggX5_data_X4_hasRoom
set_option maxRecDepth 20000 in
theorem ggX5_data_X4_claim : GoodIn wsX5_data wsX4_claim := goodIn_r _ [47, 42, 48, 49, 92, 93, 94, 95, 96, 97, 98, 99, 100, 101, 102, 103, 104, 105] rfl (by decide +kernel)
set_option maxRecDepth 20000 in
theorem gX5_data_X4_claim : GoodIn wsX5_data (wsV RX5 35 RX4 yX4_claim wsX4_claim) := goodIn_app (goodIn_of _ (by decide +kernel)) ggX5_data_X4_claim
set_option maxRecDepth 20000 in
theorem ggX5_data_X4_frameRow : GoodIn wsX5_data wsX4_frameRow := goodIn_r _ [53, 54, 92, 93] rfl (by decide +kernel)
set_option maxRecDepth 20000 in
theorem gX5_data_X4_frameRow : GoodIn wsX5_data (wsV RX5 52 RX4 yX4_frameRow wsX4_frameRow) := goodIn_app (goodIn_of _ (by decide +kernel)) ggX5_data_X4_frameRow
set_option maxRecDepth 20000 in
theorem ggX5_data_X4_map : GoodIn wsX5_data wsX4_map := goodIn_r _ [58, 37, 38, 39, 35, 40, 41, 42, 43, 14, 11, 15, 94, 95, 96, 97, 98, 99, 100, 101, 102, 103, 104, 105, 92, 93] rfl (by decide +kernel)
set_option maxRecDepth 20000 in
theorem gX5_data_X4_map : GoodIn wsX5_data (wsV RX5 122 RX4 yX4_map wsX4_map) := goodIn_app (goodIn_of _ (by decide +kernel)) ggX5_data_X4_map
set_option maxRecDepth 20000 in
theorem ggX5_data_X2_tell : GoodIn wsX5_data wsX2_tell := goodIn_r _ [63, 64, 65, 66, 67, 68, 69, 70, 71, 62, 72, 73, 74, 75, 76, 77, 78, 79, 80, 81, 82, 83, 84, 85, 86, 87, 5, 6, 7, 106, 107, 108, 94, 95, 96, 97, 98, 99, 100, 101, 102, 103, 104, 105, 109, 110] rfl (by decide +kernel)
set_option maxRecDepth 20000 in
theorem gX5_data_X2_tell : GoodIn wsX5_data (wsV RX5 95 RX2 yX2_tell wsX2_tell) := goodIn_app (goodIn_of _ (by decide +kernel)) ggX5_data_X2_tell
set_option maxRecDepth 20000 in
theorem ggX5_data_X2_tellWords : GoodIn wsX5_data wsX2_tellWords := goodIn_r _ [72, 73, 74, 75, 76, 77, 78, 79, 80, 81, 82, 83, 84, 85, 86, 87, 5, 6, 7, 106, 107, 108, 94, 95, 96, 97, 98, 99, 100, 101, 102, 103, 104, 105, 109, 110] rfl (by decide +kernel)
set_option maxRecDepth 20000 in
theorem gX5_data_X2_tellWords : GoodIn wsX5_data (wsV RX5 125 RX2 yX2_tellWords wsX2_tellWords) := goodIn_app (goodIn_of _ (by decide +kernel)) ggX5_data_X2_tellWords
theorem dX5_data_0 : decode cX5_data 0 = .ok (.iload_n 1, 1) := by decide +kernel
theorem dX5_data_1 : decode cX5_data 1 = .ok (.invokestatic 56, 3) := by decide +kernel
theorem dX5_data_4 : decode cX5_data 4 = .ok (.ifCond .eq 33, 3) := by decide +kernel
theorem dX5_data_7 : decode cX5_data 7 = .ok (.iload_n 2, 1) := by decide +kernel
theorem dX5_data_8 : decode cX5_data 8 = .ok (.invokestatic 56, 3) := by decide +kernel
theorem dX5_data_11 : decode cX5_data 11 = .ok (.ifCond .eq 26, 3) := by decide +kernel
theorem dX5_data_14 : decode cX5_data 14 = .ok (.iload_n 3, 1) := by decide +kernel
theorem dX5_data_15 : decode cX5_data 15 = .ok (.invokestatic 102, 3) := by decide +kernel
theorem dX5_data_18 : decode cX5_data 18 = .ok (.ifCond .eq 19, 3) := by decide +kernel
theorem dX5_data_21 : decode cX5_data 21 = .ok (.iload 5, 2) := by decide +kernel
theorem dX5_data_23 : decode cX5_data 23 = .ok (.invokestatic 45, 3) := by decide +kernel
theorem dX5_data_26 : decode cX5_data 26 = .ok (.ifCond .eq 11, 3) := by decide +kernel
theorem dX5_data_29 : decode cX5_data 29 = .ok (.iload 4, 2) := by decide +kernel
theorem dX5_data_31 : decode cX5_data 31 = .ok (.invokestatic 105, 3) := by decide +kernel
theorem dX5_data_34 : decode cX5_data 34 = .ok (.ifCond .ne 5, 3) := by decide +kernel
theorem dX5_data_37 : decode cX5_data 37 = .ok (.iconst 1, 1) := by decide +kernel
theorem dX5_data_38 : decode cX5_data 38 = .ok (.ireturn, 1) := by decide +kernel
theorem dX5_data_39 : decode cX5_data 39 = .ok (.aload_n 0, 1) := by decide +kernel
theorem dX5_data_40 : decode cX5_data 40 = .ok (.iload_n 1, 1) := by decide +kernel
theorem dX5_data_41 : decode cX5_data 41 = .ok (.iload_n 2, 1) := by decide +kernel
theorem dX5_data_42 : decode cX5_data 42 = .ok (.iconst 0, 1) := by decide +kernel
theorem dX5_data_43 : decode cX5_data 43 = .ok (.invokevirtual 84, 3) := by decide +kernel
theorem dX5_data_46 : decode cX5_data 46 = .ok (.istore 6, 2) := by decide +kernel
theorem dX5_data_48 : decode cX5_data 48 = .ok (.iload 6, 2) := by decide +kernel
theorem dX5_data_50 : decode cX5_data 50 = .ok (.ifCond .eq 6, 3) := by decide +kernel
theorem dX5_data_53 : decode cX5_data 53 = .ok (.iload 6, 2) := by decide +kernel
theorem dX5_data_55 : decode cX5_data 55 = .ok (.ireturn, 1) := by decide +kernel
theorem dX5_data_56 : decode cX5_data 56 = .ok (.aload_n 0, 1) := by decide +kernel
theorem dX5_data_57 : decode cX5_data 57 = .ok (.getfield 20, 3) := by decide +kernel
theorem dX5_data_60 : decode cX5_data 60 = .ok (.getfield 59, 3) := by decide +kernel
theorem dX5_data_63 : decode cX5_data 63 = .ok (.iload_n 2, 1) := by decide +kernel
theorem dX5_data_64 : decode cX5_data 64 = .ok (.aaload, 1) := by decide +kernel
theorem dX5_data_65 : decode cX5_data 65 = .ok (.astore 7, 2) := by decide +kernel
theorem dX5_data_67 : decode cX5_data 67 = .ok (.aload_n 0, 1) := by decide +kernel
theorem dX5_data_68 : decode cX5_data 68 = .ok (.getfield 20, 3) := by decide +kernel
theorem dX5_data_71 : decode cX5_data 71 = .ok (.aload 7, 2) := by decide +kernel
theorem dX5_data_73 : decode cX5_data 73 = .ok (.iload_n 3, 1) := by decide +kernel

theorem dX6_space_15 : decode cX6_space 15 = .ok (.invokevirtual 206, 3) := by decide +kernel
theorem dX6_space_18 : decode cX6_space 18 = .ok (.aload_n 0, 1) := by decide +kernel
theorem dX6_space_19 : decode cX6_space 19 = .ok (.getfield 183, 3) := by decide +kernel
theorem dX6_space_22 : decode cX6_space 22 = .ok (.ifCond .le 8, 3) := by decide +kernel
theorem dX6_space_25 : decode cX6_space 25 = .ok (.aload_n 0, 1) := by decide +kernel
theorem dX6_space_26 : decode cX6_space 26 = .ok (.getfield 183, 3) := by decide +kernel
theorem dX6_space_29 : decode cX6_space 29 = .ok (.ireturn, 1) := by decide +kernel
theorem dX6_space_30 : decode cX6_space 30 = .ok (.aload_n 0, 1) := by decide +kernel
theorem dX6_space_31 : decode cX6_space 31 = .ok (.iload_n 1, 1) := by decide +kernel
theorem dX6_space_32 : decode cX6_space 32 = .ok (.iconst 1, 1) := by decide +kernel
theorem dX6_space_33 : decode cX6_space 33 = .ok (.iconst (-1), 1) := by decide +kernel
theorem dX6_space_34 : decode cX6_space 34 = .ok (.invokevirtual 209, 3) := by decide +kernel
theorem dX6_space_37 : decode cX6_space 37 = .ok (.aload_n 0, 1) := by decide +kernel
theorem dX6_space_38 : decode cX6_space 38 = .ok (.getfield 22, 3) := by decide +kernel
theorem dX6_space_41 : decode cX6_space 41 = .ok (.iload_n 1, 1) := by decide +kernel
theorem dX6_space_42 : decode cX6_space 42 = .ok (.iconst 0, 1) := by decide +kernel
theorem dX6_space_43 : decode cX6_space 43 = .ok (.iastore, 1) := by decide +kernel
theorem dX6_space_44 : decode cX6_space 44 = .ok (.aload_n 0, 1) := by decide +kernel
theorem dX6_space_45 : decode cX6_space 45 = .ok (.getfield 46, 3) := by decide +kernel
theorem dX6_space_48 : decode cX6_space 48 = .ok (.iload_n 1, 1) := by decide +kernel
theorem dX6_space_49 : decode cX6_space 49 = .ok (.iconst 0, 1) := by decide +kernel
theorem dX6_space_50 : decode cX6_space 50 = .ok (.bastore, 1) := by decide +kernel
theorem dX6_space_51 : decode cX6_space 51 = .ok (.aload_n 0, 1) := by decide +kernel
theorem dX6_space_52 : decode cX6_space 52 = .ok (.getfield 40, 3) := by decide +kernel
theorem dX6_space_55 : decode cX6_space 55 = .ok (.iload_n 1, 1) := by decide +kernel
theorem dX6_space_56 : decode cX6_space 56 = .ok (.iconst 0, 1) := by decide +kernel
theorem dX6_space_57 : decode cX6_space 57 = .ok (.iastore, 1) := by decide +kernel
theorem dX6_space_58 : decode cX6_space 58 = .ok (.iconst 0, 1) := by decide +kernel
theorem dX6_space_59 : decode cX6_space 59 = .ok (.istore_n 2, 1) := by decide +kernel
theorem dX6_space_60 : decode cX6_space 60 = .ok (.iload_n 2, 1) := by decide +kernel
theorem dX6_space_61 : decode cX6_space 61 = .ok (.iconst 4, 1) := by decide +kernel
theorem dX6_space_62 : decode cX6_space 62 = .ok (.if_icmp .ge 20, 3) := by decide +kernel
theorem dX6_space_65 : decode cX6_space 65 = .ok (.aload_n 0, 1) := by decide +kernel
theorem dX6_space_66 : decode cX6_space 66 = .ok (.getfield 34, 3) := by decide +kernel
theorem dX6_space_69 : decode cX6_space 69 = .ok (.iconst 4, 1) := by decide +kernel
theorem dX6_space_70 : decode cX6_space 70 = .ok (.iload_n 1, 1) := by decide +kernel
theorem dX6_space_71 : decode cX6_space 71 = .ok (.imul, 1) := by decide +kernel
theorem dX6_space_72 : decode cX6_space 72 = .ok (.iload_n 2, 1) := by decide +kernel
theorem dX6_space_73 : decode cX6_space 73 = .ok (.iadd, 1) := by decide +kernel
theorem dX6_space_74 : decode cX6_space 74 = .ok (.iconst (-1), 1) := by decide +kernel
theorem dX6_space_75 : decode cX6_space 75 = .ok (.iastore, 1) := by decide +kernel
theorem dX6_space_76 : decode cX6_space 76 = .ok (.iinc 2 1, 3) := by decide +kernel
theorem dX6_space_79 : decode cX6_space 79 = .ok (.goto (-19), 3) := by decide +kernel
theorem dX6_space_82 : decode cX6_space 82 = .ok (.iconst 0, 1) := by decide +kernel
theorem dX6_space_83 : decode cX6_space 83 = .ok (.ireturn, 1) := by decide +kernel
set_option maxRecDepth 20000 in
theorem ggX6_thread_X6_begin : GoodIn wsX6_thread wsX6_begin := goodIn_r _ [8, 9, 1, 42, 43, 44, 45, 46, 47, 48, 49, 50, 51, 52, 53, 54, 55, 56, 57, 58, 59, 60, 61, 62, 63, 64, 65, 66, 67, 68, 69, 70, 71, 72, 73] rfl (by decide +kernel)
set_option maxRecDepth 20000 in
theorem gX6_thread_X6_begin : GoodIn wsX6_thread (wsV RX6 203 RX6 yX6_begin wsX6_begin) := goodIn_app (goodIn_of _ (by decide +kernel)) ggX6_thread_X6_begin
set_option maxRecDepth 20000 in
theorem ggX6_thread_X6_noPage : GoodIn wsX6_thread wsX6_noPage := goodIn_r _ [12] rfl (by decide +kernel)
set_option maxRecDepth 20000 in
theorem gX6_thread_X6_noPage : GoodIn wsX6_thread (va_wsS RX6 186 yX6_noPage wsX6_noPage) := goodIn_app (goodIn_of _ (by decide +kernel)) ggX6_thread_X6_noPage
set_option maxRecDepth 20000 in
theorem ggX6_thread_X6_wrong : GoodIn wsX6_thread wsX6_wrong := goodIn_r _ [16, 1, 42, 43, 44, 45, 46, 47, 48, 49, 50, 51, 52, 53, 54, 55, 56, 57, 58, 59, 60, 61, 62, 63, 64, 65, 66, 67, 68, 69, 70, 71, 72, 73] rfl (by decide +kernel)
set_option maxRecDepth 20000 in
theorem gX6_thread_X6_wrong : GoodIn wsX6_thread (wsV RX6 193 RX6 yX6_wrong wsX6_wrong) := goodIn_app (goodIn_of _ (by decide +kernel)) ggX6_thread_X6_wrong
set_option maxRecDepth 20000 in
theorem ggX6_thread_X6_wantFree : GoodIn wsX6_thread wsX6_wantFree := goodIn_r _ [20, 21, 22, 23, 7, 24, 25, 10, 11, 12, 13, 14, 15, 16, 1, 42, 43, 44, 45, 46, 47, 48, 49, 50, 51, 52, 53, 54, 55, 56, 57, 58, 59, 60, 61, 62, 63, 64, 65, 66, 67, 68, 69, 70, 71, 72, 73] rfl (by decide +kernel)
set_option maxRecDepth 20000 in
theorem gX6_thread_X6_wantFree : GoodIn wsX6_thread (wsV RX6 206 RX6 yX6_wantFree wsX6_wantFree) := goodIn_app (goodIn_of _ (by decide +kernel)) ggX6_thread_X6_wantFree
set_option maxRecDepth 20000 in
theorem ggX6_thread_X6_wantSpace : GoodIn wsX6_thread wsX6_wantSpace := goodIn_r _ [29, 1, 30, 21, 22, 23, 7, 24, 25, 10, 11, 12, 13, 14, 15, 16, 42, 43, 44, 45, 46, 47, 48, 49, 50, 51, 52, 53, 54, 55, 56, 57, 58, 59, 60, 61, 62, 63, 64, 65, 66, 67, 68, 69, 70, 71, 72, 73] rfl (by decide +kernel)
set_option maxRecDepth 20000 in
theorem gX6_thread_X6_wantSpace : GoodIn wsX6_thread (wsV RX6 213 RX6 yX6_wantSpace wsX6_wantSpace) := goodIn_app (goodIn_of _ (by decide +kernel)) ggX6_thread_X6_wantSpace
set_option maxRecDepth 20000 in
theorem ggX6_thread_X6_become : GoodIn wsX6_thread wsX6_become := goodIn_r _ [34, 25, 35, 42, 43, 44, 45, 46, 47, 48, 49, 50, 51, 52, 53, 54, 55, 56, 57, 58, 59, 60, 61, 62, 63, 64, 65, 66, 67, 68, 69, 70, 71, 72, 73] rfl (by decide +kernel)
set_option maxRecDepth 20000 in
theorem gX6_thread_X6_become : GoodIn wsX6_thread (wsV RX6 209 RX6 yX6_become wsX6_become) := goodIn_app (goodIn_of _ (by decide +kernel)) ggX6_thread_X6_become
set_option maxRecDepth 20000 in
theorem ggX6_thread_X6_tell : GoodIn wsX6_thread wsX6_tell := goodIn_r _ [39, 40, 41, 42, 43, 44, 45, 46, 47, 48, 49, 50, 51, 52, 53, 54, 55, 56, 57, 58, 59, 60, 61, 62, 63, 64, 65, 66, 67, 68, 69, 70, 71, 72, 73] rfl (by decide +kernel)
set_option maxRecDepth 20000 in
theorem gX6_thread_X6_tell : GoodIn wsX6_thread (wsV RX6 217 RX6 yX6_tell wsX6_tell) := goodIn_app (goodIn_of _ (by decide +kernel)) ggX6_thread_X6_tell
theorem dX6_thread_0 : decode cX6_thread 0 = .ok (.aload_n 0, 1) := by decide +kernel
theorem dX6_thread_1 : decode cX6_thread 1 = .ok (.invokevirtual 203, 3) := by decide +kernel
theorem dX6_thread_4 : decode cX6_thread 4 = .ok (.aload_n 0, 1) := by decide +kernel
theorem dX6_thread_5 : decode cX6_thread 5 = .ok (.iload_n 1, 1) := by decide +kernel
theorem dX6_thread_6 : decode cX6_thread 6 = .ok (.invokestatic 186, 3) := by decide +kernel
theorem dX6_thread_9 : decode cX6_thread 9 = .ok (.ifCond .ne 21, 3) := by decide +kernel
theorem dX6_thread_12 : decode cX6_thread 12 = .ok (.iload_n 2, 1) := by decide +kernel
theorem dX6_thread_13 : decode cX6_thread 13 = .ok (.invokestatic 186, 3) := by decide +kernel
theorem dX6_thread_16 : decode cX6_thread 16 = .ok (.ifCond .ne 14, 3) := by decide +kernel
theorem dX6_thread_19 : decode cX6_thread 19 = .ok (.iload_n 3, 1) := by decide +kernel
theorem dX6_thread_20 : decode cX6_thread 20 = .ok (.ifCond .lt 10, 3) := by decide +kernel
theorem dX6_thread_23 : decode cX6_thread 23 = .ok (.iload_n 3, 1) := by decide +kernel
theorem dX6_thread_24 : decode cX6_thread 24 = .ok (.sipush 511, 3) := by decide +kernel
theorem dX6_thread_27 : decode cX6_thread 27 = .ok (.if_icmp .le 7, 3) := by decide +kernel
theorem dX6_thread_30 : decode cX6_thread 30 = .ok (.iconst 1, 1) := by decide +kernel
theorem dX6_thread_31 : decode cX6_thread 31 = .ok (.goto 4, 3) := by decide +kernel
theorem dX6_thread_34 : decode cX6_thread 34 = .ok (.iconst 0, 1) := by decide +kernel
theorem dX6_thread_35 : decode cX6_thread 35 = .ok (.iconst 1, 1) := by decide +kernel
theorem dX6_thread_36 : decode cX6_thread 36 = .ok (.invokevirtual 193, 3) := by decide +kernel
theorem dX6_thread_39 : decode cX6_thread 39 = .ok (.aload_n 0, 1) := by decide +kernel
theorem dX6_thread_40 : decode cX6_thread 40 = .ok (.iload_n 1, 1) := by decide +kernel
theorem dX6_thread_41 : decode cX6_thread 41 = .ok (.invokevirtual 206, 3) := by decide +kernel
theorem dX6_thread_44 : decode cX6_thread 44 = .ok (.aload_n 0, 1) := by decide +kernel
theorem dX6_thread_45 : decode cX6_thread 45 = .ok (.iload_n 2, 1) := by decide +kernel
theorem dX6_thread_46 : decode cX6_thread 46 = .ok (.iconst 0, 1) := by decide +kernel
theorem dX6_thread_47 : decode cX6_thread 47 = .ok (.invokevirtual 213, 3) := by decide +kernel
theorem dX6_thread_50 : decode cX6_thread 50 = .ok (.aload_n 0, 1) := by decide +kernel
theorem dX6_thread_51 : decode cX6_thread 51 = .ok (.getfield 183, 3) := by decide +kernel
theorem dX6_thread_54 : decode cX6_thread 54 = .ok (.ifCond .le 8, 3) := by decide +kernel
theorem dX6_thread_57 : decode cX6_thread 57 = .ok (.aload_n 0, 1) := by decide +kernel
theorem dX6_thread_58 : decode cX6_thread 58 = .ok (.getfield 183, 3) := by decide +kernel
theorem dX6_thread_61 : decode cX6_thread 61 = .ok (.ireturn, 1) := by decide +kernel
theorem dX6_thread_62 : decode cX6_thread 62 = .ok (.aload_n 0, 1) := by decide +kernel
theorem dX6_thread_63 : decode cX6_thread 63 = .ok (.iload_n 1, 1) := by decide +kernel
theorem dX6_thread_64 : decode cX6_thread 64 = .ok (.iconst 2, 1) := by decide +kernel
theorem dX6_thread_65 : decode cX6_thread 65 = .ok (.iload_n 2, 1) := by decide +kernel
theorem dX6_thread_66 : decode cX6_thread 66 = .ok (.invokevirtual 209, 3) := by decide +kernel
theorem dX6_thread_69 : decode cX6_thread 69 = .ok (.aload_n 0, 1) := by decide +kernel
theorem dX6_thread_70 : decode cX6_thread 70 = .ok (.getfield 50, 3) := by decide +kernel
theorem dX6_thread_73 : decode cX6_thread 73 = .ok (.iload_n 1, 1) := by decide +kernel
theorem dX6_thread_74 : decode cX6_thread 74 = .ok (.iload_n 3, 1) := by decide +kernel
theorem dX6_thread_75 : decode cX6_thread 75 = .ok (.iastore, 1) := by decide +kernel
theorem dX6_thread_76 : decode cX6_thread 76 = .ok (.aload_n 0, 1) := by decide +kernel
theorem dX6_thread_77 : decode cX6_thread 77 = .ok (.getfield 53, 3) := by decide +kernel
theorem dX6_thread_80 : decode cX6_thread 80 = .ok (.iload_n 1, 1) := by decide +kernel
theorem dX6_thread_81 : decode cX6_thread 81 = .ok (.iconst 0, 1) := by decide +kernel
theorem dX6_thread_82 : decode cX6_thread 82 = .ok (.bastore, 1) := by decide +kernel
theorem dX6_thread_83 : decode cX6_thread 83 = .ok (.aload_n 0, 1) := by decide +kernel
theorem dX6_thread_84 : decode cX6_thread 84 = .ok (.iload_n 2, 1) := by decide +kernel
theorem dX6_thread_85 : decode cX6_thread 85 = .ok (.iconst 1, 1) := by decide +kernel
theorem dX6_thread_86 : decode cX6_thread 86 = .ok (.iload_n 3, 1) := by decide +kernel
theorem dX6_thread_87 : decode cX6_thread 87 = .ok (.iconst 0, 1) := by decide +kernel
theorem dX6_thread_88 : decode cX6_thread 88 = .ok (.invokevirtual 217, 3) := by decide +kernel
theorem dX6_thread_91 : decode cX6_thread 91 = .ok (.iconst 0, 1) := by decide +kernel
theorem dX6_thread_92 : decode cX6_thread 92 = .ok (.ireturn, 1) := by decide +kernel
set_option maxRecDepth 20000 in
theorem ggX6_table_X6_begin : GoodIn wsX6_table wsX6_begin := goodIn_r _ [8, 9, 1, 36, 37, 38, 39, 40, 41, 42, 43, 44, 45, 46, 47, 48, 49, 50, 51, 52, 53, 54, 55, 56, 57, 58, 59, 60, 61, 62, 63, 64, 65, 66, 67] rfl (by decide +kernel)
set_option maxRecDepth 20000 in
theorem gX6_table_X6_begin : GoodIn wsX6_table (wsV RX6 203 RX6 yX6_begin wsX6_begin) := goodIn_app (goodIn_of _ (by decide +kernel)) ggX6_table_X6_begin
set_option maxRecDepth 20000 in
theorem ggX6_table_X6_noPage : GoodIn wsX6_table wsX6_noPage := goodIn_r _ [12] rfl (by decide +kernel)
set_option maxRecDepth 20000 in
theorem gX6_table_X6_noPage : GoodIn wsX6_table (va_wsS RX6 186 yX6_noPage wsX6_noPage) := goodIn_app (goodIn_of _ (by decide +kernel)) ggX6_table_X6_noPage
set_option maxRecDepth 20000 in
theorem ggX6_table_X6_wrong : GoodIn wsX6_table wsX6_wrong := goodIn_r _ [16, 1, 36, 37, 38, 39, 40, 41, 42, 43, 44, 45, 46, 47, 48, 49, 50, 51, 52, 53, 54, 55, 56, 57, 58, 59, 60, 61, 62, 63, 64, 65, 66, 67] rfl (by decide +kernel)
set_option maxRecDepth 20000 in
theorem gX6_table_X6_wrong : GoodIn wsX6_table (wsV RX6 193 RX6 yX6_wrong wsX6_wrong) := goodIn_app (goodIn_of _ (by decide +kernel)) ggX6_table_X6_wrong
set_option maxRecDepth 20000 in
theorem ggX6_table_X6_wantFree : GoodIn wsX6_table wsX6_wantFree := goodIn_r _ [20, 21, 22, 23, 7, 24, 25, 10, 11, 12, 13, 14, 15, 16, 1, 36, 37, 38, 39, 40, 41, 42, 43, 44, 45, 46, 47, 48, 49, 50, 51, 52, 53, 54, 55, 56, 57, 58, 59, 60, 61, 62, 63, 64, 65, 66, 67] rfl (by decide +kernel)
set_option maxRecDepth 20000 in
theorem gX6_table_X6_wantFree : GoodIn wsX6_table (wsV RX6 206 RX6 yX6_wantFree wsX6_wantFree) := goodIn_app (goodIn_of _ (by decide +kernel)) ggX6_table_X6_wantFree
set_option maxRecDepth 20000 in
theorem ggX6_table_X6_wantSpace : GoodIn wsX6_table wsX6_wantSpace := goodIn_r _ [29, 1, 30, 21, 22, 23, 7, 24, 25, 10, 11, 12, 13, 14, 15, 16, 36, 37, 38, 39, 40, 41, 42, 43, 44, 45, 46, 47, 48, 49, 50, 51, 52, 53, 54, 55, 56, 57, 58, 59, 60, 61, 62, 63, 64, 65, 66, 67] rfl (by decide +kernel)
set_option maxRecDepth 20000 in
theorem gX6_table_X6_wantSpace : GoodIn wsX6_table (wsV RX6 213 RX6 yX6_wantSpace wsX6_wantSpace) := goodIn_app (goodIn_of _ (by decide +kernel)) ggX6_table_X6_wantSpace
set_option maxRecDepth 20000 in
theorem ggX6_table_X6_become : GoodIn wsX6_table wsX6_become := goodIn_r _ [34, 25, 35, 36, 37, 38, 39, 40, 41, 42, 43, 44, 45, 46, 47, 48, 49, 50, 51, 52, 53, 54, 55, 56, 57, 58, 59, 60, 61, 62, 63, 64, 65, 66, 67] rfl (by decide +kernel)
set_option maxRecDepth 20000 in
theorem gX6_table_X6_become : GoodIn wsX6_table (wsV RX6 209 RX6 yX6_become wsX6_become) := goodIn_app (goodIn_of _ (by decide +kernel)) ggX6_table_X6_become
theorem dX6_table_0 : decode cX6_table 0 = .ok (.aload_n 0, 1) := by decide +kernel
theorem dX6_table_1 : decode cX6_table 1 = .ok (.invokevirtual 203, 3) := by decide +kernel
theorem dX6_table_4 : decode cX6_table 4 = .ok (.aload_n 0, 1) := by decide +kernel
theorem dX6_table_5 : decode cX6_table 5 = .ok (.iload_n 1, 1) := by decide +kernel
theorem dX6_table_6 : decode cX6_table 6 = .ok (.invokestatic 186, 3) := by decide +kernel
theorem dX6_table_9 : decode cX6_table 9 = .ok (.ifCond .ne 19, 3) := by decide +kernel
theorem dX6_table_12 : decode cX6_table 12 = .ok (.iload_n 2, 1) := by decide +kernel
theorem dX6_table_13 : decode cX6_table 13 = .ok (.invokestatic 186, 3) := by decide +kernel
theorem dX6_table_16 : decode cX6_table 16 = .ok (.ifCond .ne 12, 3) := by decide +kernel
theorem dX6_table_19 : decode cX6_table 19 = .ok (.iload_n 3, 1) := by decide +kernel
theorem dX6_table_20 : decode cX6_table 20 = .ok (.ifCond .lt 8, 3) := by decide +kernel
theorem dX6_table_23 : decode cX6_table 23 = .ok (.iload_n 3, 1) := by decide +kernel
theorem dX6_table_24 : decode cX6_table 24 = .ok (.iconst 3, 1) := by decide +kernel
theorem dX6_table_25 : decode cX6_table 25 = .ok (.if_icmp .le 7, 3) := by decide +kernel
theorem dX6_table_28 : decode cX6_table 28 = .ok (.iconst 1, 1) := by decide +kernel
theorem dX6_table_29 : decode cX6_table 29 = .ok (.goto 4, 3) := by decide +kernel
theorem dX6_table_32 : decode cX6_table 32 = .ok (.iconst 0, 1) := by decide +kernel
theorem dX6_table_33 : decode cX6_table 33 = .ok (.iconst 1, 1) := by decide +kernel
theorem dX6_table_34 : decode cX6_table 34 = .ok (.invokevirtual 193, 3) := by decide +kernel
theorem dX6_table_37 : decode cX6_table 37 = .ok (.aload_n 0, 1) := by decide +kernel
theorem dX6_table_38 : decode cX6_table 38 = .ok (.iload_n 1, 1) := by decide +kernel
theorem dX6_table_39 : decode cX6_table 39 = .ok (.invokevirtual 206, 3) := by decide +kernel
theorem dX6_table_42 : decode cX6_table 42 = .ok (.aload_n 0, 1) := by decide +kernel
theorem dX6_table_43 : decode cX6_table 43 = .ok (.iload_n 2, 1) := by decide +kernel
theorem dX6_table_44 : decode cX6_table 44 = .ok (.iconst 0, 1) := by decide +kernel
theorem dX6_table_45 : decode cX6_table 45 = .ok (.invokevirtual 213, 3) := by decide +kernel
theorem dX6_table_48 : decode cX6_table 48 = .ok (.aload_n 0, 1) := by decide +kernel
theorem dX6_table_49 : decode cX6_table 49 = .ok (.aload_n 0, 1) := by decide +kernel
theorem dX6_table_50 : decode cX6_table 50 = .ok (.getfield 183, 3) := by decide +kernel
theorem dX6_table_53 : decode cX6_table 53 = .ok (.ifCond .ne 20, 3) := by decide +kernel
theorem dX6_table_56 : decode cX6_table 56 = .ok (.aload_n 0, 1) := by decide +kernel
theorem dX6_table_57 : decode cX6_table 57 = .ok (.getfield 34, 3) := by decide +kernel
theorem dX6_table_60 : decode cX6_table 60 = .ok (.iconst 4, 1) := by decide +kernel
theorem dX6_table_61 : decode cX6_table 61 = .ok (.iload_n 2, 1) := by decide +kernel
theorem dX6_table_62 : decode cX6_table 62 = .ok (.imul, 1) := by decide +kernel
theorem dX6_table_63 : decode cX6_table 63 = .ok (.iload_n 3, 1) := by decide +kernel
theorem dX6_table_64 : decode cX6_table 64 = .ok (.iadd, 1) := by decide +kernel
theorem dX6_table_65 : decode cX6_table 65 = .ok (.iaload, 1) := by decide +kernel
theorem dX6_table_66 : decode cX6_table 66 = .ok (.ifCond .lt 7, 3) := by decide +kernel
theorem dX6_table_69 : decode cX6_table 69 = .ok (.iconst 1, 1) := by decide +kernel
theorem dX6_table_70 : decode cX6_table 70 = .ok (.goto 4, 3) := by decide +kernel
theorem dX6_table_73 : decode cX6_table 73 = .ok (.iconst 0, 1) := by decide +kernel
theorem dX6_table_74 : decode cX6_table 74 = .ok (.iconst 5, 1) := by decide +kernel
theorem dX6_table_75 : decode cX6_table 75 = .ok (.invokevirtual 193, 3) := by decide +kernel
theorem dX6_table_78 : decode cX6_table 78 = .ok (.aload_n 0, 1) := by decide +kernel
theorem dX6_table_79 : decode cX6_table 79 = .ok (.getfield 183, 3) := by decide +kernel
theorem dX6_table_82 : decode cX6_table 82 = .ok (.ifCond .le 8, 3) := by decide +kernel
theorem dX6_table_85 : decode cX6_table 85 = .ok (.aload_n 0, 1) := by decide +kernel
theorem dX6_table_86 : decode cX6_table 86 = .ok (.getfield 183, 3) := by decide +kernel
theorem dX6_table_89 : decode cX6_table 89 = .ok (.ireturn, 1) := by decide +kernel
theorem dX6_table_90 : decode cX6_table 90 = .ok (.aload_n 0, 1) := by decide +kernel
theorem dX6_table_91 : decode cX6_table 91 = .ok (.iload_n 1, 1) := by decide +kernel
theorem dX6_table_92 : decode cX6_table 92 = .ok (.iconst 3, 1) := by decide +kernel
theorem dX6_table_93 : decode cX6_table 93 = .ok (.iload_n 2, 1) := by decide +kernel
theorem dX6_table_94 : decode cX6_table 94 = .ok (.invokevirtual 209, 3) := by decide +kernel
theorem dX6_table_97 : decode cX6_table 97 = .ok (.aload_n 0, 1) := by decide +kernel
theorem dX6_table_98 : decode cX6_table 98 = .ok (.getfield 34, 3) := by decide +kernel
theorem dX6_table_101 : decode cX6_table 101 = .ok (.iconst 4, 1) := by decide +kernel
theorem dX6_table_102 : decode cX6_table 102 = .ok (.iload_n 2, 1) := by decide +kernel
theorem dX6_table_103 : decode cX6_table 103 = .ok (.imul, 1) := by decide +kernel
theorem dX6_table_104 : decode cX6_table 104 = .ok (.iload_n 3, 1) := by decide +kernel
theorem dX6_table_105 : decode cX6_table 105 = .ok (.iadd, 1) := by decide +kernel
theorem dX6_table_106 : decode cX6_table 106 = .ok (.iload_n 1, 1) := by decide +kernel
theorem dX6_table_107 : decode cX6_table 107 = .ok (.iastore, 1) := by decide +kernel
theorem dX6_table_108 : decode cX6_table 108 = .ok (.iconst 0, 1) := by decide +kernel
theorem dX6_table_109 : decode cX6_table 109 = .ok (.istore 4, 2) := by decide +kernel
theorem dX6_table_111 : decode cX6_table 111 = .ok (.iload 4, 2) := by decide +kernel
theorem dX6_table_113 : decode cX6_table 113 = .ok (.bipush 8, 2) := by decide +kernel
theorem dX6_table_115 : decode cX6_table 115 = .ok (.if_icmp .ge 22, 3) := by decide +kernel
theorem dX6_table_118 : decode cX6_table 118 = .ok (.aload_n 0, 1) := by decide +kernel
theorem dX6_table_119 : decode cX6_table 119 = .ok (.getfield 28, 3) := by decide +kernel
theorem dX6_table_122 : decode cX6_table 122 = .ok (.bipush 8, 2) := by decide +kernel
theorem dX6_table_124 : decode cX6_table 124 = .ok (.iload_n 1, 1) := by decide +kernel
theorem dX6_table_125 : decode cX6_table 125 = .ok (.imul, 1) := by decide +kernel
theorem dX6_table_126 : decode cX6_table 126 = .ok (.iload 4, 2) := by decide +kernel
theorem dX6_table_128 : decode cX6_table 128 = .ok (.iadd, 1) := by decide +kernel
theorem dX6_table_129 : decode cX6_table 129 = .ok (.iconst 0, 1) := by decide +kernel
theorem dX6_table_130 : decode cX6_table 130 = .ok (.iastore, 1) := by decide +kernel
theorem dX6_table_131 : decode cX6_table 131 = .ok (.iinc 4 1, 3) := by decide +kernel
theorem dX6_table_134 : decode cX6_table 134 = .ok (.goto (-23), 3) := by decide +kernel
theorem dX6_table_137 : decode cX6_table 137 = .ok (.iconst 0, 1) := by decide +kernel
theorem dX6_table_138 : decode cX6_table 138 = .ok (.ireturn, 1) := by decide +kernel
set_option maxRecDepth 20000 in
theorem ggX6_data_X6_begin : GoodIn wsX6_data wsX6_begin := goodIn_r _ [12, 13, 1, 63, 64, 65, 66, 67, 68, 69, 70, 71, 72, 73, 74, 75, 76, 77, 78, 79, 80, 81, 82, 83, 84, 85, 86, 87, 88, 89, 90, 91, 92, 93, 94] rfl (by decide +kernel)
set_option maxRecDepth 20000 in
theorem gX6_data_X6_begin : GoodIn wsX6_data (wsV RX6 203 RX6 yX6_begin wsX6_begin) := goodIn_app (goodIn_of _ (by decide +kernel)) ggX6_data_X6_begin
set_option maxRecDepth 20000 in
theorem ggX6_data_X6_noPage : GoodIn wsX6_data wsX6_noPage := goodIn_r _ [16] rfl (by decide +kernel)
set_option maxRecDepth 20000 in
theorem gX6_data_X6_noPage : GoodIn wsX6_data (va_wsS RX6 186 yX6_noPage wsX6_noPage) := goodIn_app (goodIn_of _ (by decide +kernel)) ggX6_data_X6_noPage
set_option maxRecDepth 20000 in
theorem ggX6_data_X6_noBlock : GoodIn wsX6_data wsX6_noBlock := goodIn_r _ [19] rfl (by decide +kernel)
set_option maxRecDepth 20000 in
theorem gX6_data_X6_noBlock : GoodIn wsX6_data (va_wsS RX6 221 yX6_noBlock wsX6_noBlock) := goodIn_app (goodIn_of _ (by decide +kernel)) ggX6_data_X6_noBlock
set_option maxRecDepth 20000 in
theorem ggX6_data_X6_noFrame : GoodIn wsX6_data wsX6_noFrame := goodIn_r _ [22] rfl (by decide +kernel)
set_option maxRecDepth 20000 in
theorem gX6_data_X6_noFrame : GoodIn wsX6_data (va_wsS RX6 179 yX6_noFrame wsX6_noFrame) := goodIn_app (goodIn_of _ (by decide +kernel)) ggX6_data_X6_noFrame
set_option maxRecDepth 20000 in
theorem ggX6_data_X6_wrong : GoodIn wsX6_data wsX6_wrong := goodIn_r _ [26, 1, 63, 64, 65, 66, 67, 68, 69, 70, 71, 72, 73, 74, 75, 76, 77, 78, 79, 80, 81, 82, 83, 84, 85, 86, 87, 88, 89, 90, 91, 92, 93, 94] rfl (by decide +kernel)
set_option maxRecDepth 20000 in
theorem gX6_data_X6_wrong : GoodIn wsX6_data (wsV RX6 193 RX6 yX6_wrong wsX6_wrong) := goodIn_app (goodIn_of _ (by decide +kernel)) ggX6_data_X6_wrong
set_option maxRecDepth 20000 in
theorem ggX6_data_X6_wantFree : GoodIn wsX6_data wsX6_wantFree := goodIn_r _ [30, 31, 32, 33, 11, 34, 35, 14, 15, 16, 23, 24, 25, 26, 1, 63, 64, 65, 66, 67, 68, 69, 70, 71, 72, 73, 74, 75, 76, 77, 78, 79, 80, 81, 82, 83, 84, 85, 86, 87, 88, 89, 90, 91, 92, 93, 94] rfl (by decide +kernel)
set_option maxRecDepth 20000 in
theorem gX6_data_X6_wantFree : GoodIn wsX6_data (wsV RX6 206 RX6 yX6_wantFree wsX6_wantFree) := goodIn_app (goodIn_of _ (by decide +kernel)) ggX6_data_X6_wantFree
set_option maxRecDepth 20000 in
theorem ggX6_data_X6_wantSpace : GoodIn wsX6_data wsX6_wantSpace := goodIn_r _ [39, 1, 40, 31, 32, 33, 11, 34, 35, 14, 15, 16, 23, 24, 25, 26, 63, 64, 65, 66, 67, 68, 69, 70, 71, 72, 73, 74, 75, 76, 77, 78, 79, 80, 81, 82, 83, 84, 85, 86, 87, 88, 89, 90, 91, 92, 93, 94] rfl (by decide +kernel)
set_option maxRecDepth 20000 in
theorem gX6_data_X6_wantSpace : GoodIn wsX6_data (wsV RX6 213 RX6 yX6_wantSpace wsX6_wantSpace) := goodIn_app (goodIn_of _ (by decide +kernel)) ggX6_data_X6_wantSpace
set_option maxRecDepth 20000 in
theorem ggX6_data_X6_isTaken : GoodIn wsX6_data wsX6_isTaken := goodIn_r _ [44, 2, 45, 46, 47, 11, 48, 49, 50, 51, 52, 53, 63, 64, 65, 66, 67, 68, 69, 70, 71, 72, 73, 74, 75, 76, 77, 78, 79, 80, 81, 82, 83, 84, 85, 86, 87, 88, 89, 90, 91, 92, 93, 94] rfl (by decide +kernel)
set_option maxRecDepth 20000 in
theorem gX6_data_X6_isTaken : GoodIn wsX6_data (wsV RX6 224 RX6 yX6_isTaken wsX6_isTaken) := goodIn_app (goodIn_of _ (by decide +kernel)) ggX6_data_X6_isTaken
set_option maxRecDepth 20000 in
theorem ggX6_data_X6_become : GoodIn wsX6_data wsX6_become := goodIn_r _ [57, 35, 58, 63, 64, 65, 66, 67, 68, 69, 70, 71, 72, 73, 74, 75, 76, 77, 78, 79, 80, 81, 82, 83, 84, 85, 86, 87, 88, 89, 90, 91, 92, 93, 94] rfl (by decide +kernel)
set_option maxRecDepth 20000 in
theorem gX6_data_X6_become : GoodIn wsX6_data (wsV RX6 209 RX6 yX6_become wsX6_become) := goodIn_app (goodIn_of _ (by decide +kernel)) ggX6_data_X6_become
set_option maxRecDepth 20000 in
theorem ggX6_data_X6_entryOf : GoodIn wsX6_data wsX6_entryOf := goodIn_r _ [53, 45, 46, 47, 11, 48, 49, 63, 64, 65, 66, 67, 68, 69, 70, 71, 72, 73, 74, 75, 76, 77, 78, 79, 80, 81, 82, 83, 84, 85, 86, 87, 88, 89, 90, 91, 92, 93, 94] rfl (by decide +kernel)
set_option maxRecDepth 20000 in
theorem gX6_data_X6_entryOf : GoodIn wsX6_data (wsV RX6 200 RX6 yX6_entryOf wsX6_entryOf) := goodIn_app (goodIn_of _ (by decide +kernel)) ggX6_data_X6_entryOf
set_option maxRecDepth 20000 in
theorem ggX6_data_X6_tell : GoodIn wsX6_data wsX6_tell := goodIn_r _ [62, 7, 6, 63, 64, 65, 66, 67, 68, 69, 70, 71, 72, 73, 74, 75, 76, 77, 78, 79, 80, 81, 82, 83, 84, 85, 86, 87, 88, 89, 90, 91, 92, 93, 94] rfl (by decide +kernel)
set_option maxRecDepth 20000 in
theorem gX6_data_X6_tell : GoodIn wsX6_data (wsV RX6 217 RX6 yX6_tell wsX6_tell) := goodIn_app (goodIn_of _ (by decide +kernel)) ggX6_data_X6_tell
theorem dX6_data_0 : decode cX6_data 0 = .ok (.aload_n 0, 1) := by decide +kernel
theorem dX6_data_1 : decode cX6_data 1 = .ok (.invokevirtual 203, 3) := by decide +kernel
theorem dX6_data_4 : decode cX6_data 4 = .ok (.aload_n 0, 1) := by decide +kernel
theorem dX6_data_5 : decode cX6_data 5 = .ok (.iload_n 1, 1) := by decide +kernel
theorem dX6_data_6 : decode cX6_data 6 = .ok (.invokestatic 186, 3) := by decide +kernel
theorem dX6_data_9 : decode cX6_data 9 = .ok (.ifCond .ne 38, 3) := by decide +kernel
theorem dX6_data_12 : decode cX6_data 12 = .ok (.iload_n 2, 1) := by decide +kernel
theorem dX6_data_13 : decode cX6_data 13 = .ok (.invokestatic 186, 3) := by decide +kernel
theorem dX6_data_16 : decode cX6_data 16 = .ok (.ifCond .ne 31, 3) := by decide +kernel
theorem dX6_data_19 : decode cX6_data 19 = .ok (.iload_n 3, 1) := by decide +kernel
theorem dX6_data_20 : decode cX6_data 20 = .ok (.invokestatic 221, 3) := by decide +kernel
theorem dX6_data_23 : decode cX6_data 23 = .ok (.ifCond .ne 24, 3) := by decide +kernel
theorem dX6_data_26 : decode cX6_data 26 = .ok (.iload 4, 2) := by decide +kernel
theorem dX6_data_28 : decode cX6_data 28 = .ok (.iconst 1, 1) := by decide +kernel
theorem dX6_data_29 : decode cX6_data 29 = .ok (.if_icmp .lt 18, 3) := by decide +kernel
theorem dX6_data_32 : decode cX6_data 32 = .ok (.iload 4, 2) := by decide +kernel
theorem dX6_data_34 : decode cX6_data 34 = .ok (.bipush 7, 2) := by decide +kernel
theorem dX6_data_36 : decode cX6_data 36 = .ok (.if_icmp .gt 11, 3) := by decide +kernel
theorem dX6_data_39 : decode cX6_data 39 = .ok (.iload 5, 2) := by decide +kernel
theorem dX6_data_41 : decode cX6_data 41 = .ok (.invokestatic 179, 3) := by decide +kernel
theorem dX6_data_44 : decode cX6_data 44 = .ok (.ifCond .eq 7, 3) := by decide +kernel
theorem dX6_data_47 : decode cX6_data 47 = .ok (.iconst 1, 1) := by decide +kernel
theorem dX6_data_48 : decode cX6_data 48 = .ok (.goto 4, 3) := by decide +kernel
theorem dX6_data_51 : decode cX6_data 51 = .ok (.iconst 0, 1) := by decide +kernel
theorem dX6_data_52 : decode cX6_data 52 = .ok (.iconst 1, 1) := by decide +kernel
theorem dX6_data_53 : decode cX6_data 53 = .ok (.invokevirtual 193, 3) := by decide +kernel
theorem dX6_data_56 : decode cX6_data 56 = .ok (.aload_n 0, 1) := by decide +kernel
theorem dX6_data_57 : decode cX6_data 57 = .ok (.iload_n 1, 1) := by decide +kernel
theorem dX6_data_58 : decode cX6_data 58 = .ok (.invokevirtual 206, 3) := by decide +kernel
theorem dX6_data_61 : decode cX6_data 61 = .ok (.aload_n 0, 1) := by decide +kernel
theorem dX6_data_62 : decode cX6_data 62 = .ok (.iload_n 2, 1) := by decide +kernel
theorem dX6_data_63 : decode cX6_data 63 = .ok (.iconst 0, 1) := by decide +kernel
theorem dX6_data_64 : decode cX6_data 64 = .ok (.invokevirtual 213, 3) := by decide +kernel
theorem dX6_data_67 : decode cX6_data 67 = .ok (.aload_n 0, 1) := by decide +kernel
theorem dX6_data_68 : decode cX6_data 68 = .ok (.aload_n 0, 1) := by decide +kernel
theorem dX6_data_69 : decode cX6_data 69 = .ok (.getfield 183, 3) := by decide +kernel
theorem dX6_data_72 : decode cX6_data 72 = .ok (.ifCond .ne 16, 3) := by decide +kernel
theorem dX6_data_75 : decode cX6_data 75 = .ok (.aload_n 0, 1) := by decide +kernel
theorem dX6_data_76 : decode cX6_data 76 = .ok (.iload_n 2, 1) := by decide +kernel
theorem dX6_data_77 : decode cX6_data 77 = .ok (.iload_n 3, 1) := by decide +kernel
theorem dX6_data_78 : decode cX6_data 78 = .ok (.invokevirtual 224, 3) := by decide +kernel
theorem dX6_data_81 : decode cX6_data 81 = .ok (.ifCond .eq 7, 3) := by decide +kernel
theorem dX6_data_84 : decode cX6_data 84 = .ok (.iconst 1, 1) := by decide +kernel
theorem dX6_data_85 : decode cX6_data 85 = .ok (.goto 4, 3) := by decide +kernel
theorem dX6_data_88 : decode cX6_data 88 = .ok (.iconst 0, 1) := by decide +kernel
theorem dX6_data_89 : decode cX6_data 89 = .ok (.iconst 5, 1) := by decide +kernel
theorem dX6_data_90 : decode cX6_data 90 = .ok (.invokevirtual 193, 3) := by decide +kernel
theorem dX6_data_93 : decode cX6_data 93 = .ok (.aload_n 0, 1) := by decide +kernel
theorem dX6_data_94 : decode cX6_data 94 = .ok (.getfield 183, 3) := by decide +kernel
theorem dX6_data_97 : decode cX6_data 97 = .ok (.ifCond .le 8, 3) := by decide +kernel
theorem dX6_data_100 : decode cX6_data 100 = .ok (.aload_n 0, 1) := by decide +kernel
theorem dX6_data_101 : decode cX6_data 101 = .ok (.getfield 183, 3) := by decide +kernel
theorem dX6_data_104 : decode cX6_data 104 = .ok (.ireturn, 1) := by decide +kernel
theorem dX6_data_105 : decode cX6_data 105 = .ok (.aload_n 0, 1) := by decide +kernel
theorem dX6_data_106 : decode cX6_data 106 = .ok (.iload_n 1, 1) := by decide +kernel
theorem dX6_data_107 : decode cX6_data 107 = .ok (.iconst 4, 1) := by decide +kernel
theorem dX6_data_108 : decode cX6_data 108 = .ok (.iload_n 2, 1) := by decide +kernel
theorem dX6_data_109 : decode cX6_data 109 = .ok (.invokevirtual 209, 3) := by decide +kernel
theorem dX6_data_112 : decode cX6_data 112 = .ok (.aload_n 0, 1) := by decide +kernel
theorem dX6_data_113 : decode cX6_data 113 = .ok (.getfield 28, 3) := by decide +kernel
theorem dX6_data_116 : decode cX6_data 116 = .ok (.aload_n 0, 1) := by decide +kernel
theorem dX6_data_117 : decode cX6_data 117 = .ok (.iload_n 2, 1) := by decide +kernel
theorem dX6_data_118 : decode cX6_data 118 = .ok (.iload_n 3, 1) := by decide +kernel
theorem dX6_data_119 : decode cX6_data 119 = .ok (.invokevirtual 200, 3) := by decide +kernel
theorem dX6_data_122 : decode cX6_data 122 = .ok (.iload_n 1, 1) := by decide +kernel
theorem dX6_data_123 : decode cX6_data 123 = .ok (.iconst 1, 1) := by decide +kernel
theorem dX6_data_124 : decode cX6_data 124 = .ok (.iadd, 1) := by decide +kernel
theorem dX6_data_125 : decode cX6_data 125 = .ok (.iastore, 1) := by decide +kernel
theorem dX6_data_126 : decode cX6_data 126 = .ok (.aload_n 0, 1) := by decide +kernel
theorem dX6_data_127 : decode cX6_data 127 = .ok (.getfield 31, 3) := by decide +kernel
theorem dX6_data_130 : decode cX6_data 130 = .ok (.aload_n 0, 1) := by decide +kernel
theorem dX6_data_131 : decode cX6_data 131 = .ok (.iload_n 2, 1) := by decide +kernel
theorem dX6_data_132 : decode cX6_data 132 = .ok (.iload_n 3, 1) := by decide +kernel
theorem dX6_data_133 : decode cX6_data 133 = .ok (.invokevirtual 200, 3) := by decide +kernel
theorem dX6_data_136 : decode cX6_data 136 = .ok (.iload 4, 2) := by decide +kernel
theorem dX6_data_138 : decode cX6_data 138 = .ok (.iastore, 1) := by decide +kernel
theorem dX6_data_139 : decode cX6_data 139 = .ok (.aload_n 0, 1) := by decide +kernel
theorem dX6_data_140 : decode cX6_data 140 = .ok (.iload_n 2, 1) := by decide +kernel
theorem dX6_data_141 : decode cX6_data 141 = .ok (.iconst 2, 1) := by decide +kernel
theorem dX6_data_142 : decode cX6_data 142 = .ok (.iload_n 3, 1) := by decide +kernel
theorem dX6_data_143 : decode cX6_data 143 = .ok (.iload 4, 2) := by decide +kernel
theorem dX6_data_145 : decode cX6_data 145 = .ok (.invokevirtual 217, 3) := by decide +kernel
theorem dX6_data_148 : decode cX6_data 148 = .ok (.iconst 0, 1) := by decide +kernel
theorem dX6_data_149 : decode cX6_data 149 = .ok (.istore 6, 2) := by decide +kernel
theorem dX6_data_151 : decode cX6_data 151 = .ok (.iload 6, 2) := by decide +kernel
theorem dX6_data_153 : decode cX6_data 153 = .ok (.bipush 16, 2) := by decide +kernel
theorem dX6_data_155 : decode cX6_data 155 = .ok (.if_icmp .ge 67, 3) := by decide +kernel
theorem dX6_data_158 : decode cX6_data 158 = .ok (.aload_n 0, 1) := by decide +kernel
theorem dX6_data_159 : decode cX6_data 159 = .ok (.getfield 25, 3) := by decide +kernel
theorem dX6_data_162 : decode cX6_data 162 = .ok (.bipush 16, 2) := by decide +kernel
theorem dX6_data_164 : decode cX6_data 164 = .ok (.iload_n 1, 1) := by decide +kernel
theorem dX6_data_165 : decode cX6_data 165 = .ok (.imul, 1) := by decide +kernel
theorem dX6_data_166 : decode cX6_data 166 = .ok (.iload 6, 2) := by decide +kernel
theorem dX6_data_168 : decode cX6_data 168 = .ok (.iadd, 1) := by decide +kernel
theorem dX6_data_169 : decode cX6_data 169 = .ok (.aload_n 0, 1) := by decide +kernel
theorem dX6_data_170 : decode cX6_data 170 = .ok (.getfield 13, 3) := by decide +kernel
theorem dX6_data_173 : decode cX6_data 173 = .ok (.bipush 16, 2) := by decide +kernel
theorem dX6_data_175 : decode cX6_data 175 = .ok (.iload 5, 2) := by decide +kernel
theorem dX6_data_177 : decode cX6_data 177 = .ok (.imul, 1) := by decide +kernel
theorem dX6_data_178 : decode cX6_data 178 = .ok (.iload 6, 2) := by decide +kernel
theorem dX6_data_180 : decode cX6_data 180 = .ok (.iadd, 1) := by decide +kernel
theorem dX6_data_181 : decode cX6_data 181 = .ok (.iaload, 1) := by decide +kernel
theorem dX6_data_182 : decode cX6_data 182 = .ok (.iastore, 1) := by decide +kernel
theorem dX6_data_183 : decode cX6_data 183 = .ok (.aload_n 0, 1) := by decide +kernel
theorem dX6_data_184 : decode cX6_data 184 = .ok (.getfield 37, 3) := by decide +kernel
theorem dX6_data_187 : decode cX6_data 187 = .ok (.sipush 1600, 3) := by decide +kernel
theorem dX6_data_190 : decode cX6_data 190 = .ok (.iload_n 2, 1) := by decide +kernel
theorem dX6_data_191 : decode cX6_data 191 = .ok (.imul, 1) := by decide +kernel
theorem dX6_data_192 : decode cX6_data 192 = .ok (.aload_n 0, 1) := by decide +kernel
theorem dX6_data_193 : decode cX6_data 193 = .ok (.getfield 40, 3) := by decide +kernel
theorem dX6_data_196 : decode cX6_data 196 = .ok (.iload_n 2, 1) := by decide +kernel
theorem dX6_data_197 : decode cX6_data 197 = .ok (.iaload, 1) := by decide +kernel
theorem dX6_data_198 : decode cX6_data 198 = .ok (.iadd, 1) := by decide +kernel
theorem dX6_data_199 : decode cX6_data 199 = .ok (.iload 6, 2) := by decide +kernel
theorem dX6_data_201 : decode cX6_data 201 = .ok (.iadd, 1) := by decide +kernel
theorem dX6_data_202 : decode cX6_data 202 = .ok (.aload_n 0, 1) := by decide +kernel
theorem dX6_data_203 : decode cX6_data 203 = .ok (.getfield 13, 3) := by decide +kernel
theorem dX6_data_206 : decode cX6_data 206 = .ok (.bipush 16, 2) := by decide +kernel
theorem dX6_data_208 : decode cX6_data 208 = .ok (.iload 5, 2) := by decide +kernel
theorem dX6_data_210 : decode cX6_data 210 = .ok (.imul, 1) := by decide +kernel
theorem dX6_data_211 : decode cX6_data 211 = .ok (.iload 6, 2) := by decide +kernel
theorem dX6_data_213 : decode cX6_data 213 = .ok (.iadd, 1) := by decide +kernel
theorem dX6_data_214 : decode cX6_data 214 = .ok (.iaload, 1) := by decide +kernel
theorem dX6_data_215 : decode cX6_data 215 = .ok (.iastore, 1) := by decide +kernel
theorem dX6_data_216 : decode cX6_data 216 = .ok (.iinc 6 1, 3) := by decide +kernel
theorem dX6_data_219 : decode cX6_data 219 = .ok (.goto (-68), 3) := by decide +kernel
theorem dX6_data_222 : decode cX6_data 222 = .ok (.aload_n 0, 1) := by decide +kernel
theorem dX6_data_223 : decode cX6_data 223 = .ok (.getfield 40, 3) := by decide +kernel
theorem dX6_data_226 : decode cX6_data 226 = .ok (.iload_n 2, 1) := by decide +kernel
theorem dX6_data_227 : decode cX6_data 227 = .ok (.aload_n 0, 1) := by decide +kernel
theorem dX6_data_228 : decode cX6_data 228 = .ok (.getfield 40, 3) := by decide +kernel
theorem dX6_data_231 : decode cX6_data 231 = .ok (.iload_n 2, 1) := by decide +kernel
theorem dX6_data_232 : decode cX6_data 232 = .ok (.iaload, 1) := by decide +kernel
theorem dX6_data_233 : decode cX6_data 233 = .ok (.bipush 16, 2) := by decide +kernel
theorem dX6_data_235 : decode cX6_data 235 = .ok (.iadd, 1) := by decide +kernel
theorem dX6_data_236 : decode cX6_data 236 = .ok (.iastore, 1) := by decide +kernel
theorem dX6_data_237 : decode cX6_data 237 = .ok (.iconst 0, 1) := by decide +kernel
theorem dX6_data_238 : decode cX6_data 238 = .ok (.ireturn, 1) := by decide +kernel
set_option maxRecDepth 20000 in
theorem ggX6_share_X6_begin : GoodIn wsX6_share wsX6_begin := goodIn_r _ [8, 9, 1, 52, 53, 54, 55, 56, 57, 58, 59, 60, 61, 62, 63, 64, 65, 66, 67, 68, 69, 70, 71, 72, 73, 74, 75, 76, 77, 78, 79, 80, 81, 82, 83] rfl (by decide +kernel)
set_option maxRecDepth 20000 in
theorem gX6_share_X6_begin : GoodIn wsX6_share (wsV RX6 203 RX6 yX6_begin wsX6_begin) := goodIn_app (goodIn_of _ (by decide +kernel)) ggX6_share_X6_begin
set_option maxRecDepth 20000 in
theorem ggX6_share_X6_noPage : GoodIn wsX6_share wsX6_noPage := goodIn_r _ [12] rfl (by decide +kernel)
set_option maxRecDepth 20000 in
theorem gX6_share_X6_noPage : GoodIn wsX6_share (va_wsS RX6 186 yX6_noPage wsX6_noPage) := goodIn_app (goodIn_of _ (by decide +kernel)) ggX6_share_X6_noPage
set_option maxRecDepth 20000 in
theorem ggX6_share_X6_noBlock : GoodIn wsX6_share wsX6_noBlock := goodIn_r _ [15] rfl (by decide +kernel)
set_option maxRecDepth 20000 in
theorem gX6_share_X6_noBlock : GoodIn wsX6_share (va_wsS RX6 221 yX6_noBlock wsX6_noBlock) := goodIn_app (goodIn_of _ (by decide +kernel)) ggX6_share_X6_noBlock
set_option maxRecDepth 20000 in
theorem ggX6_share_X6_noFrame : GoodIn wsX6_share wsX6_noFrame := goodIn_r _ [18] rfl (by decide +kernel)
set_option maxRecDepth 20000 in
theorem gX6_share_X6_noFrame : GoodIn wsX6_share (va_wsS RX6 179 yX6_noFrame wsX6_noFrame) := goodIn_app (goodIn_of _ (by decide +kernel)) ggX6_share_X6_noFrame
set_option maxRecDepth 20000 in
theorem ggX6_share_X6_wrong : GoodIn wsX6_share wsX6_wrong := goodIn_r _ [22, 1, 52, 53, 54, 55, 56, 57, 58, 59, 60, 61, 62, 63, 64, 65, 66, 67, 68, 69, 70, 71, 72, 73, 74, 75, 76, 77, 78, 79, 80, 81, 82, 83] rfl (by decide +kernel)
set_option maxRecDepth 20000 in
theorem gX6_share_X6_wrong : GoodIn wsX6_share (wsV RX6 193 RX6 yX6_wrong wsX6_wrong) := goodIn_app (goodIn_of _ (by decide +kernel)) ggX6_share_X6_wrong
set_option maxRecDepth 20000 in
theorem ggX6_share_X6_wantSpace : GoodIn wsX6_share wsX6_wantSpace := goodIn_r _ [26, 1, 27, 28, 29, 30, 7, 31, 32, 10, 11, 12, 19, 20, 21, 22, 52, 53, 54, 55, 56, 57, 58, 59, 60, 61, 62, 63, 64, 65, 66, 67, 68, 69, 70, 71, 72, 73, 74, 75, 76, 77, 78, 79, 80, 81, 82, 83] rfl (by decide +kernel)
set_option maxRecDepth 20000 in
theorem gX6_share_X6_wantSpace : GoodIn wsX6_share (wsV RX6 213 RX6 yX6_wantSpace wsX6_wantSpace) := goodIn_app (goodIn_of _ (by decide +kernel)) ggX6_share_X6_wantSpace
set_option maxRecDepth 20000 in
theorem ggX6_share_X6_isTaken : GoodIn wsX6_share wsX6_isTaken := goodIn_r _ [36, 2, 37, 38, 39, 7, 40, 41, 42, 43, 44, 45, 52, 53, 54, 55, 56, 57, 58, 59, 60, 61, 62, 63, 64, 65, 66, 67, 68, 69, 70, 71, 72, 73, 74, 75, 76, 77, 78, 79, 80, 81, 82, 83] rfl (by decide +kernel)
set_option maxRecDepth 20000 in
theorem gX6_share_X6_isTaken : GoodIn wsX6_share (wsV RX6 224 RX6 yX6_isTaken wsX6_isTaken) := goodIn_app (goodIn_of _ (by decide +kernel)) ggX6_share_X6_isTaken
set_option maxRecDepth 20000 in
theorem ggX6_share_X6_entryOf : GoodIn wsX6_share wsX6_entryOf := goodIn_r _ [45, 37, 38, 39, 7, 40, 41, 52, 53, 54, 55, 56, 57, 58, 59, 60, 61, 62, 63, 64, 65, 66, 67, 68, 69, 70, 71, 72, 73, 74, 75, 76, 77, 78, 79, 80, 81, 82, 83] rfl (by decide +kernel)
set_option maxRecDepth 20000 in
theorem gX6_share_X6_entryOf : GoodIn wsX6_share (wsV RX6 200 RX6 yX6_entryOf wsX6_entryOf) := goodIn_app (goodIn_of _ (by decide +kernel)) ggX6_share_X6_entryOf
set_option maxRecDepth 20000 in
theorem ggX6_share_X6_tell : GoodIn wsX6_share wsX6_tell := goodIn_r _ [49, 50, 51, 52, 53, 54, 55, 56, 57, 58, 59, 60, 61, 62, 63, 64, 65, 66, 67, 68, 69, 70, 71, 72, 73, 74, 75, 76, 77, 78, 79, 80, 81, 82, 83] rfl (by decide +kernel)
set_option maxRecDepth 20000 in
theorem gX6_share_X6_tell : GoodIn wsX6_share (wsV RX6 217 RX6 yX6_tell wsX6_tell) := goodIn_app (goodIn_of _ (by decide +kernel)) ggX6_share_X6_tell
theorem dX6_share_0 : decode cX6_share 0 = .ok (.aload_n 0, 1) := by decide +kernel
theorem dX6_share_1 : decode cX6_share 1 = .ok (.invokevirtual 203, 3) := by decide +kernel
theorem dX6_share_4 : decode cX6_share 4 = .ok (.aload_n 0, 1) := by decide +kernel
theorem dX6_share_5 : decode cX6_share 5 = .ok (.iload_n 1, 1) := by decide +kernel
theorem dX6_share_6 : decode cX6_share 6 = .ok (.invokestatic 186, 3) := by decide +kernel
theorem dX6_share_9 : decode cX6_share 9 = .ok (.ifCond .ne 28, 3) := by decide +kernel
theorem dX6_share_12 : decode cX6_share 12 = .ok (.iload_n 2, 1) := by decide +kernel
theorem dX6_share_13 : decode cX6_share 13 = .ok (.invokestatic 221, 3) := by decide +kernel
theorem dX6_share_16 : decode cX6_share 16 = .ok (.ifCond .ne 21, 3) := by decide +kernel
theorem dX6_share_19 : decode cX6_share 19 = .ok (.iload_n 3, 1) := by decide +kernel
theorem dX6_share_20 : decode cX6_share 20 = .ok (.iconst 1, 1) := by decide +kernel
theorem dX6_share_21 : decode cX6_share 21 = .ok (.if_icmp .eq 8, 3) := by decide +kernel
theorem dX6_share_24 : decode cX6_share 24 = .ok (.iload_n 3, 1) := by decide +kernel
theorem dX6_share_25 : decode cX6_share 25 = .ok (.iconst 3, 1) := by decide +kernel
theorem dX6_share_26 : decode cX6_share 26 = .ok (.if_icmp .ne 11, 3) := by decide +kernel
theorem dX6_share_29 : decode cX6_share 29 = .ok (.iload 4, 2) := by decide +kernel
theorem dX6_share_31 : decode cX6_share 31 = .ok (.invokestatic 179, 3) := by decide +kernel
theorem dX6_share_34 : decode cX6_share 34 = .ok (.ifCond .eq 7, 3) := by decide +kernel
theorem dX6_share_37 : decode cX6_share 37 = .ok (.iconst 1, 1) := by decide +kernel
theorem dX6_share_38 : decode cX6_share 38 = .ok (.goto 4, 3) := by decide +kernel
theorem dX6_share_41 : decode cX6_share 41 = .ok (.iconst 0, 1) := by decide +kernel
theorem dX6_share_42 : decode cX6_share 42 = .ok (.iconst 1, 1) := by decide +kernel
theorem dX6_share_43 : decode cX6_share 43 = .ok (.invokevirtual 193, 3) := by decide +kernel
theorem dX6_share_46 : decode cX6_share 46 = .ok (.aload_n 0, 1) := by decide +kernel
theorem dX6_share_47 : decode cX6_share 47 = .ok (.iload_n 1, 1) := by decide +kernel
theorem dX6_share_48 : decode cX6_share 48 = .ok (.iconst 0, 1) := by decide +kernel
theorem dX6_share_49 : decode cX6_share 49 = .ok (.invokevirtual 213, 3) := by decide +kernel
theorem dX6_share_52 : decode cX6_share 52 = .ok (.aload_n 0, 1) := by decide +kernel
theorem dX6_share_53 : decode cX6_share 53 = .ok (.aload_n 0, 1) := by decide +kernel
theorem dX6_share_54 : decode cX6_share 54 = .ok (.getfield 183, 3) := by decide +kernel
theorem dX6_share_57 : decode cX6_share 57 = .ok (.ifCond .ne 16, 3) := by decide +kernel
theorem dX6_share_60 : decode cX6_share 60 = .ok (.aload_n 0, 1) := by decide +kernel
theorem dX6_share_61 : decode cX6_share 61 = .ok (.iload_n 1, 1) := by decide +kernel
theorem dX6_share_62 : decode cX6_share 62 = .ok (.iload_n 2, 1) := by decide +kernel
theorem dX6_share_63 : decode cX6_share 63 = .ok (.invokevirtual 224, 3) := by decide +kernel
theorem dX6_share_66 : decode cX6_share 66 = .ok (.ifCond .eq 7, 3) := by decide +kernel
theorem dX6_share_69 : decode cX6_share 69 = .ok (.iconst 1, 1) := by decide +kernel
theorem dX6_share_70 : decode cX6_share 70 = .ok (.goto 4, 3) := by decide +kernel
theorem dX6_share_73 : decode cX6_share 73 = .ok (.iconst 0, 1) := by decide +kernel
theorem dX6_share_74 : decode cX6_share 74 = .ok (.iconst 5, 1) := by decide +kernel
theorem dX6_share_75 : decode cX6_share 75 = .ok (.invokevirtual 193, 3) := by decide +kernel
theorem dX6_share_78 : decode cX6_share 78 = .ok (.aload_n 0, 1) := by decide +kernel
theorem dX6_share_79 : decode cX6_share 79 = .ok (.getfield 183, 3) := by decide +kernel
theorem dX6_share_82 : decode cX6_share 82 = .ok (.ifCond .le 8, 3) := by decide +kernel
theorem dX6_share_85 : decode cX6_share 85 = .ok (.aload_n 0, 1) := by decide +kernel
theorem dX6_share_86 : decode cX6_share 86 = .ok (.getfield 183, 3) := by decide +kernel
theorem dX6_share_89 : decode cX6_share 89 = .ok (.ireturn, 1) := by decide +kernel
theorem dX6_share_90 : decode cX6_share 90 = .ok (.aload_n 0, 1) := by decide +kernel
theorem dX6_share_91 : decode cX6_share 91 = .ok (.getfield 28, 3) := by decide +kernel
theorem dX6_share_94 : decode cX6_share 94 = .ok (.aload_n 0, 1) := by decide +kernel
theorem dX6_share_95 : decode cX6_share 95 = .ok (.iload_n 1, 1) := by decide +kernel
theorem dX6_share_96 : decode cX6_share 96 = .ok (.iload_n 2, 1) := by decide +kernel
theorem dX6_share_97 : decode cX6_share 97 = .ok (.invokevirtual 200, 3) := by decide +kernel
theorem dX6_share_100 : decode cX6_share 100 = .ok (.iload 4, 2) := by decide +kernel
theorem dX6_share_102 : decode cX6_share 102 = .ok (.ineg, 1) := by decide +kernel
theorem dX6_share_103 : decode cX6_share 103 = .ok (.iconst 1, 1) := by decide +kernel
theorem dX6_share_104 : decode cX6_share 104 = .ok (.isub, 1) := by decide +kernel
theorem dX6_share_105 : decode cX6_share 105 = .ok (.iastore, 1) := by decide +kernel
theorem dX6_share_106 : decode cX6_share 106 = .ok (.aload_n 0, 1) := by decide +kernel
theorem dX6_share_107 : decode cX6_share 107 = .ok (.getfield 31, 3) := by decide +kernel
theorem dX6_share_110 : decode cX6_share 110 = .ok (.aload_n 0, 1) := by decide +kernel
theorem dX6_share_111 : decode cX6_share 111 = .ok (.iload_n 1, 1) := by decide +kernel
theorem dX6_share_112 : decode cX6_share 112 = .ok (.iload_n 2, 1) := by decide +kernel
theorem dX6_share_113 : decode cX6_share 113 = .ok (.invokevirtual 200, 3) := by decide +kernel
theorem dX6_share_116 : decode cX6_share 116 = .ok (.iload_n 3, 1) := by decide +kernel
theorem dX6_share_117 : decode cX6_share 117 = .ok (.iastore, 1) := by decide +kernel
theorem dX6_share_118 : decode cX6_share 118 = .ok (.aload_n 0, 1) := by decide +kernel
theorem dX6_share_119 : decode cX6_share 119 = .ok (.iload_n 1, 1) := by decide +kernel
theorem dX6_share_120 : decode cX6_share 120 = .ok (.iconst 3, 1) := by decide +kernel
theorem dX6_share_121 : decode cX6_share 121 = .ok (.iload_n 2, 1) := by decide +kernel
theorem dX6_share_122 : decode cX6_share 122 = .ok (.iload_n 3, 1) := by decide +kernel
theorem dX6_share_123 : decode cX6_share 123 = .ok (.invokevirtual 217, 3) := by decide +kernel
theorem dX6_share_126 : decode cX6_share 126 = .ok (.iconst 0, 1) := by decide +kernel
theorem dX6_share_127 : decode cX6_share 127 = .ok (.ireturn, 1) := by decide +kernel
set_option maxRecDepth 20000 in
theorem ggX6_spare_X6_begin : GoodIn wsX6_spare wsX6_begin := goodIn_r _ [7, 8, 1, 30, 31, 32, 33, 34, 35, 36, 37, 38, 39, 40, 41, 42, 43, 44, 45, 46, 47, 48, 49, 50, 51, 52, 53, 54, 55, 56, 57, 58, 59, 60, 61] rfl (by decide +kernel)
set_option maxRecDepth 20000 in
theorem gX6_spare_X6_begin : GoodIn wsX6_spare (wsV RX6 203 RX6 yX6_begin wsX6_begin) := goodIn_app (goodIn_of _ (by decide +kernel)) ggX6_spare_X6_begin
set_option maxRecDepth 20000 in
theorem ggX6_spare_X6_noPage : GoodIn wsX6_spare wsX6_noPage := goodIn_r _ [11] rfl (by decide +kernel)
set_option maxRecDepth 20000 in
theorem gX6_spare_X6_noPage : GoodIn wsX6_spare (va_wsS RX6 186 yX6_noPage wsX6_noPage) := goodIn_app (goodIn_of _ (by decide +kernel)) ggX6_spare_X6_noPage
set_option maxRecDepth 20000 in
theorem ggX6_spare_X6_wrong : GoodIn wsX6_spare wsX6_wrong := goodIn_r _ [15, 1, 30, 31, 32, 33, 34, 35, 36, 37, 38, 39, 40, 41, 42, 43, 44, 45, 46, 47, 48, 49, 50, 51, 52, 53, 54, 55, 56, 57, 58, 59, 60, 61] rfl (by decide +kernel)
set_option maxRecDepth 20000 in
theorem gX6_spare_X6_wrong : GoodIn wsX6_spare (wsV RX6 193 RX6 yX6_wrong wsX6_wrong) := goodIn_app (goodIn_of _ (by decide +kernel)) ggX6_spare_X6_wrong
set_option maxRecDepth 20000 in
theorem ggX6_spare_X6_wantFree : GoodIn wsX6_spare wsX6_wantFree := goodIn_r _ [19, 20, 21, 22, 6, 23, 24, 9, 10, 11, 12, 13, 14, 15, 1, 30, 31, 32, 33, 34, 35, 36, 37, 38, 39, 40, 41, 42, 43, 44, 45, 46, 47, 48, 49, 50, 51, 52, 53, 54, 55, 56, 57, 58, 59, 60, 61] rfl (by decide +kernel)
set_option maxRecDepth 20000 in
theorem gX6_spare_X6_wantFree : GoodIn wsX6_spare (wsV RX6 206 RX6 yX6_wantFree wsX6_wantFree) := goodIn_app (goodIn_of _ (by decide +kernel)) ggX6_spare_X6_wantFree
set_option maxRecDepth 20000 in
theorem ggX6_spare_X6_isKind : GoodIn wsX6_spare wsX6_isKind := goodIn_r _ [23, 24, 9, 10, 6, 11, 30, 31, 32, 33, 34, 35, 36, 37, 38, 39, 40, 41, 42, 43, 44, 45, 46, 47, 48, 49, 50, 51, 52, 53, 54, 55, 56, 57, 58, 59, 60, 61] rfl (by decide +kernel)
set_option maxRecDepth 20000 in
theorem gX6_spare_X6_isKind : GoodIn wsX6_spare (wsV RX6 189 RX6 yX6_isKind wsX6_isKind) := goodIn_app (goodIn_of _ (by decide +kernel)) ggX6_spare_X6_isKind
set_option maxRecDepth 20000 in
theorem ggX6_spare_X6_become : GoodIn wsX6_spare wsX6_become := goodIn_r _ [28, 24, 29, 30, 31, 32, 33, 34, 35, 36, 37, 38, 39, 40, 41, 42, 43, 44, 45, 46, 47, 48, 49, 50, 51, 52, 53, 54, 55, 56, 57, 58, 59, 60, 61] rfl (by decide +kernel)
set_option maxRecDepth 20000 in
theorem gX6_spare_X6_become : GoodIn wsX6_spare (wsV RX6 209 RX6 yX6_become wsX6_become) := goodIn_app (goodIn_of _ (by decide +kernel)) ggX6_spare_X6_become
theorem dX6_spare_0 : decode cX6_spare 0 = .ok (.aload_n 0, 1) := by decide +kernel
theorem dX6_spare_1 : decode cX6_spare 1 = .ok (.invokevirtual 203, 3) := by decide +kernel
theorem dX6_spare_4 : decode cX6_spare 4 = .ok (.aload_n 0, 1) := by decide +kernel
theorem dX6_spare_5 : decode cX6_spare 5 = .ok (.iload_n 1, 1) := by decide +kernel
theorem dX6_spare_6 : decode cX6_spare 6 = .ok (.invokestatic 186, 3) := by decide +kernel
theorem dX6_spare_9 : decode cX6_spare 9 = .ok (.ifCond .ne 10, 3) := by decide +kernel
theorem dX6_spare_12 : decode cX6_spare 12 = .ok (.iload_n 2, 1) := by decide +kernel
theorem dX6_spare_13 : decode cX6_spare 13 = .ok (.invokestatic 186, 3) := by decide +kernel
theorem dX6_spare_16 : decode cX6_spare 16 = .ok (.ifCond .eq 7, 3) := by decide +kernel
theorem dX6_spare_19 : decode cX6_spare 19 = .ok (.iconst 1, 1) := by decide +kernel
theorem dX6_spare_20 : decode cX6_spare 20 = .ok (.goto 4, 3) := by decide +kernel
theorem dX6_spare_23 : decode cX6_spare 23 = .ok (.iconst 0, 1) := by decide +kernel
theorem dX6_spare_24 : decode cX6_spare 24 = .ok (.iconst 1, 1) := by decide +kernel
theorem dX6_spare_25 : decode cX6_spare 25 = .ok (.invokevirtual 193, 3) := by decide +kernel
theorem dX6_spare_28 : decode cX6_spare 28 = .ok (.aload_n 0, 1) := by decide +kernel
theorem dX6_spare_29 : decode cX6_spare 29 = .ok (.iload_n 1, 1) := by decide +kernel
theorem dX6_spare_30 : decode cX6_spare 30 = .ok (.invokevirtual 206, 3) := by decide +kernel
theorem dX6_spare_33 : decode cX6_spare 33 = .ok (.aload_n 0, 1) := by decide +kernel
theorem dX6_spare_34 : decode cX6_spare 34 = .ok (.aload_n 0, 1) := by decide +kernel
theorem dX6_spare_35 : decode cX6_spare 35 = .ok (.iload_n 2, 1) := by decide +kernel
theorem dX6_spare_36 : decode cX6_spare 36 = .ok (.iconst 1, 1) := by decide +kernel
theorem dX6_spare_37 : decode cX6_spare 37 = .ok (.invokevirtual 189, 3) := by decide +kernel
theorem dX6_spare_40 : decode cX6_spare 40 = .ok (.ifCond .ne 7, 3) := by decide +kernel
theorem dX6_spare_43 : decode cX6_spare 43 = .ok (.iconst 1, 1) := by decide +kernel
theorem dX6_spare_44 : decode cX6_spare 44 = .ok (.goto 4, 3) := by decide +kernel
theorem dX6_spare_47 : decode cX6_spare 47 = .ok (.iconst 0, 1) := by decide +kernel
theorem dX6_spare_48 : decode cX6_spare 48 = .ok (.iconst 3, 1) := by decide +kernel
theorem dX6_spare_49 : decode cX6_spare 49 = .ok (.invokevirtual 193, 3) := by decide +kernel
theorem dX6_spare_52 : decode cX6_spare 52 = .ok (.aload_n 0, 1) := by decide +kernel
theorem dX6_spare_53 : decode cX6_spare 53 = .ok (.aload_n 0, 1) := by decide +kernel
theorem dX6_spare_54 : decode cX6_spare 54 = .ok (.getfield 183, 3) := by decide +kernel
theorem dX6_spare_57 : decode cX6_spare 57 = .ok (.ifCond .ne 17, 3) := by decide +kernel
theorem dX6_spare_60 : decode cX6_spare 60 = .ok (.aload_n 0, 1) := by decide +kernel
theorem dX6_spare_61 : decode cX6_spare 61 = .ok (.getfield 22, 3) := by decide +kernel
theorem dX6_spare_64 : decode cX6_spare 64 = .ok (.iload_n 2, 1) := by decide +kernel
theorem dX6_spare_65 : decode cX6_spare 65 = .ok (.iaload, 1) := by decide +kernel
theorem dX6_spare_66 : decode cX6_spare 66 = .ok (.iconst 2, 1) := by decide +kernel
theorem dX6_spare_67 : decode cX6_spare 67 = .ok (.if_icmp .ne 7, 3) := by decide +kernel
theorem dX6_spare_70 : decode cX6_spare 70 = .ok (.iconst 1, 1) := by decide +kernel
theorem dX6_spare_71 : decode cX6_spare 71 = .ok (.goto 4, 3) := by decide +kernel
theorem dX6_spare_74 : decode cX6_spare 74 = .ok (.iconst 0, 1) := by decide +kernel
theorem dX6_spare_75 : decode cX6_spare 75 = .ok (.iconst 4, 1) := by decide +kernel
theorem dX6_spare_76 : decode cX6_spare 76 = .ok (.invokevirtual 193, 3) := by decide +kernel
theorem dX6_spare_79 : decode cX6_spare 79 = .ok (.aload_n 0, 1) := by decide +kernel
theorem dX6_spare_80 : decode cX6_spare 80 = .ok (.getfield 183, 3) := by decide +kernel
theorem dX6_spare_83 : decode cX6_spare 83 = .ok (.ifCond .ne 10, 3) := by decide +kernel
theorem dX6_spare_86 : decode cX6_spare 86 = .ok (.aload_n 0, 1) := by decide +kernel
theorem dX6_spare_87 : decode cX6_spare 87 = .ok (.iload_n 1, 1) := by decide +kernel
theorem dX6_spare_88 : decode cX6_spare 88 = .ok (.iconst 5, 1) := by decide +kernel
theorem dX6_spare_89 : decode cX6_spare 89 = .ok (.iload_n 2, 1) := by decide +kernel
theorem dX6_spare_90 : decode cX6_spare 90 = .ok (.invokevirtual 209, 3) := by decide +kernel
theorem dX6_spare_93 : decode cX6_spare 93 = .ok (.aload_n 0, 1) := by decide +kernel
theorem dX6_spare_94 : decode cX6_spare 94 = .ok (.getfield 183, 3) := by decide +kernel
theorem dX6_spare_97 : decode cX6_spare 97 = .ok (.ireturn, 1) := by decide +kernel
set_option maxRecDepth 20000 in
theorem ggX6_finish_X6_begin : GoodIn wsX6_finish wsX6_begin := goodIn_r _ [13, 14, 1, 51, 52, 53, 54, 55, 56, 57, 58, 59, 60, 61, 62, 63, 64, 65, 66, 67, 68, 69, 70, 71, 72, 73, 74, 75, 76, 77, 78, 79, 80, 81, 82] rfl (by decide +kernel)
set_option maxRecDepth 20000 in
theorem gX6_finish_X6_begin : GoodIn wsX6_finish (wsV RX6 203 RX6 yX6_begin wsX6_begin) := goodIn_app (goodIn_of _ (by decide +kernel)) ggX6_finish_X6_begin
set_option maxRecDepth 20000 in
theorem ggX6_finish_X6_noPage : GoodIn wsX6_finish wsX6_noPage := goodIn_r _ [17] rfl (by decide +kernel)
set_option maxRecDepth 20000 in
theorem gX6_finish_X6_noPage : GoodIn wsX6_finish (va_wsS RX6 186 yX6_noPage wsX6_noPage) := goodIn_app (goodIn_of _ (by decide +kernel)) ggX6_finish_X6_noPage
set_option maxRecDepth 20000 in
theorem ggX6_finish_X6_wrong : GoodIn wsX6_finish wsX6_wrong := goodIn_r _ [21, 1, 51, 52, 53, 54, 55, 56, 57, 58, 59, 60, 61, 62, 63, 64, 65, 66, 67, 68, 69, 70, 71, 72, 73, 74, 75, 76, 77, 78, 79, 80, 81, 82] rfl (by decide +kernel)
set_option maxRecDepth 20000 in
theorem gX6_finish_X6_wrong : GoodIn wsX6_finish (wsV RX6 193 RX6 yX6_wrong wsX6_wrong) := goodIn_app (goodIn_of _ (by decide +kernel)) ggX6_finish_X6_wrong
set_option maxRecDepth 20000 in
theorem ggX6_finish_X6_wantSpace : GoodIn wsX6_finish wsX6_wantSpace := goodIn_r _ [25, 1, 8, 26, 27, 28, 12, 29, 30, 15, 16, 17, 18, 19, 20, 21, 51, 52, 53, 54, 55, 56, 57, 58, 59, 60, 61, 62, 63, 64, 65, 66, 67, 68, 69, 70, 71, 72, 73, 74, 75, 76, 77, 78, 79, 80, 81, 82] rfl (by decide +kernel)
set_option maxRecDepth 20000 in
theorem gX6_finish_X6_wantSpace : GoodIn wsX6_finish (wsV RX6 213 RX6 yX6_wantSpace wsX6_wantSpace) := goodIn_app (goodIn_of _ (by decide +kernel)) ggX6_finish_X6_wantSpace
set_option maxRecDepth 20000 in
theorem ggX6_finish_X6_tell : GoodIn wsX6_finish wsX6_tell := goodIn_r _ [34, 2, 4, 51, 52, 53, 54, 55, 56, 57, 58, 59, 60, 61, 62, 63, 64, 65, 66, 67, 68, 69, 70, 71, 72, 73, 74, 75, 76, 77, 78, 79, 80, 81, 82] rfl (by decide +kernel)
set_option maxRecDepth 20000 in
theorem gX6_finish_X6_tell : GoodIn wsX6_finish (wsV RX6 217 RX6 yX6_tell wsX6_tell) := goodIn_app (goodIn_of _ (by decide +kernel)) ggX6_finish_X6_tell
set_option maxRecDepth 20000 in
theorem ggX6_finish_X6_hash : GoodIn wsX6_finish wsX6_hash := goodIn_r _ [38, 6, 39, 3, 40, 41, 42, 43, 12, 44, 45, 46, 47, 48, 49, 50, 51, 52, 53, 54, 55, 56, 57, 58, 59, 60, 61, 62, 63, 64, 65, 66, 67, 68, 69, 70, 71, 72, 73, 74, 75, 76, 77, 78, 79, 80, 81, 82] rfl (by decide +kernel)
set_option maxRecDepth 20000 in
theorem gX6_finish_X6_hash : GoodIn wsX6_finish (wsV RX6 176 RX6 yX6_hash wsX6_hash) := goodIn_app (goodIn_of _ (by decide +kernel)) ggX6_finish_X6_hash
theorem dX6_finish_0 : decode cX6_finish 0 = .ok (.aload_n 0, 1) := by decide +kernel
theorem dX6_finish_1 : decode cX6_finish 1 = .ok (.invokevirtual 203, 3) := by decide +kernel
theorem dX6_finish_4 : decode cX6_finish 4 = .ok (.aload_n 0, 1) := by decide +kernel
theorem dX6_finish_5 : decode cX6_finish 5 = .ok (.iload_n 1, 1) := by decide +kernel
theorem dX6_finish_6 : decode cX6_finish 6 = .ok (.invokestatic 186, 3) := by decide +kernel
theorem dX6_finish_9 : decode cX6_finish 9 = .ok (.iconst 1, 1) := by decide +kernel
theorem dX6_finish_10 : decode cX6_finish 10 = .ok (.invokevirtual 193, 3) := by decide +kernel
theorem dX6_finish_13 : decode cX6_finish 13 = .ok (.aload_n 0, 1) := by decide +kernel
theorem dX6_finish_14 : decode cX6_finish 14 = .ok (.iload_n 1, 1) := by decide +kernel
theorem dX6_finish_15 : decode cX6_finish 15 = .ok (.iconst 0, 1) := by decide +kernel
theorem dX6_finish_16 : decode cX6_finish 16 = .ok (.invokevirtual 213, 3) := by decide +kernel
theorem dX6_finish_19 : decode cX6_finish 19 = .ok (.aload_n 0, 1) := by decide +kernel
theorem dX6_finish_20 : decode cX6_finish 20 = .ok (.getfield 183, 3) := by decide +kernel
theorem dX6_finish_23 : decode cX6_finish 23 = .ok (.ifCond .le 8, 3) := by decide +kernel
theorem dX6_finish_26 : decode cX6_finish 26 = .ok (.aload_n 0, 1) := by decide +kernel
theorem dX6_finish_27 : decode cX6_finish 27 = .ok (.getfield 183, 3) := by decide +kernel
theorem dX6_finish_30 : decode cX6_finish 30 = .ok (.ireturn, 1) := by decide +kernel
theorem dX6_finish_31 : decode cX6_finish 31 = .ok (.aload_n 0, 1) := by decide +kernel
theorem dX6_finish_32 : decode cX6_finish 32 = .ok (.iload_n 1, 1) := by decide +kernel
theorem dX6_finish_33 : decode cX6_finish 33 = .ok (.iconst 4, 1) := by decide +kernel
theorem dX6_finish_34 : decode cX6_finish 34 = .ok (.iconst 0, 1) := by decide +kernel
theorem dX6_finish_35 : decode cX6_finish 35 = .ok (.iconst 0, 1) := by decide +kernel
theorem dX6_finish_36 : decode cX6_finish 36 = .ok (.invokevirtual 217, 3) := by decide +kernel
theorem dX6_finish_39 : decode cX6_finish 39 = .ok (.iconst 0, 1) := by decide +kernel
theorem dX6_finish_40 : decode cX6_finish 40 = .ok (.istore_n 2, 1) := by decide +kernel
theorem dX6_finish_41 : decode cX6_finish 41 = .ok (.iload_n 2, 1) := by decide +kernel
theorem dX6_finish_42 : decode cX6_finish 42 = .ok (.aload_n 0, 1) := by decide +kernel
theorem dX6_finish_43 : decode cX6_finish 43 = .ok (.getfield 40, 3) := by decide +kernel
theorem dX6_finish_46 : decode cX6_finish 46 = .ok (.iload_n 1, 1) := by decide +kernel
theorem dX6_finish_47 : decode cX6_finish 47 = .ok (.iaload, 1) := by decide +kernel
theorem dX6_finish_48 : decode cX6_finish 48 = .ok (.if_icmp .ge 27, 3) := by decide +kernel
theorem dX6_finish_51 : decode cX6_finish 51 = .ok (.aload_n 0, 1) := by decide +kernel
theorem dX6_finish_52 : decode cX6_finish 52 = .ok (.getfield 140, 3) := by decide +kernel
theorem dX6_finish_55 : decode cX6_finish 55 = .ok (.iload_n 2, 1) := by decide +kernel
theorem dX6_finish_56 : decode cX6_finish 56 = .ok (.aload_n 0, 1) := by decide +kernel
theorem dX6_finish_57 : decode cX6_finish 57 = .ok (.getfield 37, 3) := by decide +kernel
theorem dX6_finish_60 : decode cX6_finish 60 = .ok (.sipush 1600, 3) := by decide +kernel
theorem dX6_finish_63 : decode cX6_finish 63 = .ok (.iload_n 1, 1) := by decide +kernel
theorem dX6_finish_64 : decode cX6_finish 64 = .ok (.imul, 1) := by decide +kernel
theorem dX6_finish_65 : decode cX6_finish 65 = .ok (.iload_n 2, 1) := by decide +kernel
theorem dX6_finish_66 : decode cX6_finish 66 = .ok (.iadd, 1) := by decide +kernel
theorem dX6_finish_67 : decode cX6_finish 67 = .ok (.iaload, 1) := by decide +kernel
theorem dX6_finish_68 : decode cX6_finish 68 = .ok (.iastore, 1) := by decide +kernel
theorem dX6_finish_69 : decode cX6_finish 69 = .ok (.iinc 2 1, 3) := by decide +kernel
theorem dX6_finish_72 : decode cX6_finish 72 = .ok (.goto (-31), 3) := by decide +kernel
theorem dX6_finish_75 : decode cX6_finish 75 = .ok (.aload_n 0, 1) := by decide +kernel
theorem dX6_finish_76 : decode cX6_finish 76 = .ok (.aload_n 0, 1) := by decide +kernel
theorem dX6_finish_77 : decode cX6_finish 77 = .ok (.getfield 40, 3) := by decide +kernel
theorem dX6_finish_80 : decode cX6_finish 80 = .ok (.iload_n 1, 1) := by decide +kernel
theorem dX6_finish_81 : decode cX6_finish 81 = .ok (.iaload, 1) := by decide +kernel
theorem dX6_finish_82 : decode cX6_finish 82 = .ok (.invokevirtual 176, 3) := by decide +kernel
theorem dX6_finish_85 : decode cX6_finish 85 = .ok (.iconst 0, 1) := by decide +kernel
theorem dX6_finish_86 : decode cX6_finish 86 = .ok (.istore_n 2, 1) := by decide +kernel
theorem dX6_finish_87 : decode cX6_finish 87 = .ok (.iload_n 2, 1) := by decide +kernel
theorem dX6_finish_88 : decode cX6_finish 88 = .ok (.bipush 8, 2) := by decide +kernel
theorem dX6_finish_90 : decode cX6_finish 90 = .ok (.if_icmp .ge 26, 3) := by decide +kernel
theorem dX6_finish_93 : decode cX6_finish 93 = .ok (.aload_n 0, 1) := by decide +kernel
theorem dX6_finish_94 : decode cX6_finish 94 = .ok (.getfield 43, 3) := by decide +kernel
theorem dX6_finish_97 : decode cX6_finish 97 = .ok (.bipush 8, 2) := by decide +kernel
theorem dX6_finish_99 : decode cX6_finish 99 = .ok (.iload_n 1, 1) := by decide +kernel
theorem dX6_finish_100 : decode cX6_finish 100 = .ok (.imul, 1) := by decide +kernel
theorem dX6_finish_101 : decode cX6_finish 101 = .ok (.iload_n 2, 1) := by decide +kernel
theorem dX6_finish_102 : decode cX6_finish 102 = .ok (.iadd, 1) := by decide +kernel
theorem dX6_finish_103 : decode cX6_finish 103 = .ok (.aload_n 0, 1) := by decide +kernel
theorem dX6_finish_104 : decode cX6_finish 104 = .ok (.getfield 146, 3) := by decide +kernel
theorem dX6_finish_107 : decode cX6_finish 107 = .ok (.iload_n 2, 1) := by decide +kernel
theorem dX6_finish_108 : decode cX6_finish 108 = .ok (.iaload, 1) := by decide +kernel
theorem dX6_finish_109 : decode cX6_finish 109 = .ok (.iastore, 1) := by decide +kernel
theorem dX6_finish_110 : decode cX6_finish 110 = .ok (.iinc 2 1, 3) := by decide +kernel
theorem dX6_finish_113 : decode cX6_finish 113 = .ok (.goto (-26), 3) := by decide +kernel
theorem dX6_finish_116 : decode cX6_finish 116 = .ok (.aload_n 0, 1) := by decide +kernel
theorem dX6_finish_117 : decode cX6_finish 117 = .ok (.getfield 46, 3) := by decide +kernel
theorem dX6_finish_120 : decode cX6_finish 120 = .ok (.iload_n 1, 1) := by decide +kernel
theorem dX6_finish_121 : decode cX6_finish 121 = .ok (.iconst 1, 1) := by decide +kernel
theorem dX6_finish_122 : decode cX6_finish 122 = .ok (.bastore, 1) := by decide +kernel
theorem dX6_finish_123 : decode cX6_finish 123 = .ok (.aload_n 0, 1) := by decide +kernel
theorem dX6_finish_124 : decode cX6_finish 124 = .ok (.getfield 22, 3) := by decide +kernel
theorem dX6_finish_127 : decode cX6_finish 127 = .ok (.iload_n 1, 1) := by decide +kernel
theorem dX6_finish_128 : decode cX6_finish 128 = .ok (.iconst 1, 1) := by decide +kernel
theorem dX6_finish_129 : decode cX6_finish 129 = .ok (.iastore, 1) := by decide +kernel
theorem dX6_finish_130 : decode cX6_finish 130 = .ok (.iconst 0, 1) := by decide +kernel
theorem dX6_finish_131 : decode cX6_finish 131 = .ok (.ireturn, 1) := by decide +kernel
set_option maxRecDepth 20000 in
theorem ggX6_stop_X6_begin : GoodIn wsX6_stop wsX6_begin := goodIn_r _ [9, 10, 1, 23, 24, 25, 26, 27, 28, 29, 30, 31, 32, 33, 34, 35, 36, 37, 38, 39, 40, 41, 42, 43, 44, 45, 46, 47, 48, 49, 50, 51, 52, 53, 54] rfl (by decide +kernel)
set_option maxRecDepth 20000 in
theorem gX6_stop_X6_begin : GoodIn wsX6_stop (wsV RX6 203 RX6 yX6_begin wsX6_begin) := goodIn_app (goodIn_of _ (by decide +kernel)) ggX6_stop_X6_begin
set_option maxRecDepth 20000 in
theorem ggX6_stop_X6_noPage : GoodIn wsX6_stop wsX6_noPage := goodIn_r _ [13] rfl (by decide +kernel)
set_option maxRecDepth 20000 in
theorem gX6_stop_X6_noPage : GoodIn wsX6_stop (va_wsS RX6 186 yX6_noPage wsX6_noPage) := goodIn_app (goodIn_of _ (by decide +kernel)) ggX6_stop_X6_noPage
set_option maxRecDepth 20000 in
theorem ggX6_stop_X6_wrong : GoodIn wsX6_stop wsX6_wrong := goodIn_r _ [17, 1, 23, 24, 25, 26, 27, 28, 29, 30, 31, 32, 33, 34, 35, 36, 37, 38, 39, 40, 41, 42, 43, 44, 45, 46, 47, 48, 49, 50, 51, 52, 53, 54] rfl (by decide +kernel)
set_option maxRecDepth 20000 in
theorem gX6_stop_X6_wrong : GoodIn wsX6_stop (wsV RX6 193 RX6 yX6_wrong wsX6_wrong) := goodIn_app (goodIn_of _ (by decide +kernel)) ggX6_stop_X6_wrong
set_option maxRecDepth 20000 in
theorem ggX6_stop_X6_isKind : GoodIn wsX6_stop wsX6_isKind := goodIn_r _ [21, 22, 11, 12, 8, 13, 23, 24, 25, 26, 27, 28, 29, 30, 31, 32, 33, 34, 35, 36, 37, 38, 39, 40, 41, 42, 43, 44, 45, 46, 47, 48, 49, 50, 51, 52, 53, 54] rfl (by decide +kernel)
set_option maxRecDepth 20000 in
theorem gX6_stop_X6_isKind : GoodIn wsX6_stop (wsV RX6 189 RX6 yX6_isKind wsX6_isKind) := goodIn_app (goodIn_of _ (by decide +kernel)) ggX6_stop_X6_isKind
theorem dX6_stop_0 : decode cX6_stop 0 = .ok (.aload_n 0, 1) := by decide +kernel
theorem dX6_stop_1 : decode cX6_stop 1 = .ok (.invokevirtual 203, 3) := by decide +kernel
theorem dX6_stop_4 : decode cX6_stop 4 = .ok (.aload_n 0, 1) := by decide +kernel
theorem dX6_stop_5 : decode cX6_stop 5 = .ok (.iload_n 1, 1) := by decide +kernel
theorem dX6_stop_6 : decode cX6_stop 6 = .ok (.invokestatic 186, 3) := by decide +kernel
theorem dX6_stop_9 : decode cX6_stop 9 = .ok (.iconst 1, 1) := by decide +kernel
theorem dX6_stop_10 : decode cX6_stop 10 = .ok (.invokevirtual 193, 3) := by decide +kernel
theorem dX6_stop_13 : decode cX6_stop 13 = .ok (.aload_n 0, 1) := by decide +kernel
theorem dX6_stop_14 : decode cX6_stop 14 = .ok (.aload_n 0, 1) := by decide +kernel
theorem dX6_stop_15 : decode cX6_stop 15 = .ok (.iload_n 1, 1) := by decide +kernel
theorem dX6_stop_16 : decode cX6_stop 16 = .ok (.iconst 1, 1) := by decide +kernel
theorem dX6_stop_17 : decode cX6_stop 17 = .ok (.invokevirtual 189, 3) := by decide +kernel
theorem dX6_stop_20 : decode cX6_stop 20 = .ok (.ifCond .ne 7, 3) := by decide +kernel
theorem dX6_stop_23 : decode cX6_stop 23 = .ok (.iconst 1, 1) := by decide +kernel
theorem dX6_stop_24 : decode cX6_stop 24 = .ok (.goto 4, 3) := by decide +kernel
theorem dX6_stop_27 : decode cX6_stop 27 = .ok (.iconst 0, 1) := by decide +kernel
theorem dX6_stop_28 : decode cX6_stop 28 = .ok (.iconst 3, 1) := by decide +kernel
theorem dX6_stop_29 : decode cX6_stop 29 = .ok (.invokevirtual 193, 3) := by decide +kernel
theorem dX6_stop_32 : decode cX6_stop 32 = .ok (.aload_n 0, 1) := by decide +kernel
theorem dX6_stop_33 : decode cX6_stop 33 = .ok (.aload_n 0, 1) := by decide +kernel
theorem dX6_stop_34 : decode cX6_stop 34 = .ok (.getfield 183, 3) := by decide +kernel
theorem dX6_stop_37 : decode cX6_stop 37 = .ok (.ifCond .ne 17, 3) := by decide +kernel
theorem dX6_stop_40 : decode cX6_stop 40 = .ok (.aload_n 0, 1) := by decide +kernel
theorem dX6_stop_41 : decode cX6_stop 41 = .ok (.getfield 22, 3) := by decide +kernel
theorem dX6_stop_44 : decode cX6_stop 44 = .ok (.iload_n 1, 1) := by decide +kernel
theorem dX6_stop_45 : decode cX6_stop 45 = .ok (.iaload, 1) := by decide +kernel
theorem dX6_stop_46 : decode cX6_stop 46 = .ok (.iconst 2, 1) := by decide +kernel
theorem dX6_stop_47 : decode cX6_stop 47 = .ok (.if_icmp .ne 7, 3) := by decide +kernel
theorem dX6_stop_50 : decode cX6_stop 50 = .ok (.iconst 1, 1) := by decide +kernel
theorem dX6_stop_51 : decode cX6_stop 51 = .ok (.goto 4, 3) := by decide +kernel
theorem dX6_stop_54 : decode cX6_stop 54 = .ok (.iconst 0, 1) := by decide +kernel
theorem dX6_stop_55 : decode cX6_stop 55 = .ok (.iconst 4, 1) := by decide +kernel
theorem dX6_stop_56 : decode cX6_stop 56 = .ok (.invokevirtual 193, 3) := by decide +kernel
theorem dX6_stop_59 : decode cX6_stop 59 = .ok (.aload_n 0, 1) := by decide +kernel
theorem dX6_stop_60 : decode cX6_stop 60 = .ok (.getfield 183, 3) := by decide +kernel
theorem dX6_stop_63 : decode cX6_stop 63 = .ok (.ifCond .le 8, 3) := by decide +kernel
theorem dX6_stop_66 : decode cX6_stop 66 = .ok (.aload_n 0, 1) := by decide +kernel
theorem dX6_stop_67 : decode cX6_stop 67 = .ok (.getfield 183, 3) := by decide +kernel
theorem dX6_stop_70 : decode cX6_stop 70 = .ok (.ireturn, 1) := by decide +kernel
theorem dX6_stop_71 : decode cX6_stop 71 = .ok (.aload_n 0, 1) := by decide +kernel
theorem dX6_stop_72 : decode cX6_stop 72 = .ok (.getfield 22, 3) := by decide +kernel
theorem dX6_stop_75 : decode cX6_stop 75 = .ok (.iload_n 1, 1) := by decide +kernel
theorem dX6_stop_76 : decode cX6_stop 76 = .ok (.iconst 2, 1) := by decide +kernel
theorem dX6_stop_77 : decode cX6_stop 77 = .ok (.iastore, 1) := by decide +kernel
theorem dX6_stop_78 : decode cX6_stop 78 = .ok (.iconst 0, 1) := by decide +kernel
theorem dX6_stop_79 : decode cX6_stop 79 = .ok (.istore_n 2, 1) := by decide +kernel
theorem dX6_stop_80 : decode cX6_stop 80 = .ok (.iload_n 2, 1) := by decide +kernel
theorem dX6_stop_81 : decode cX6_stop 81 = .ok (.bipush 20, 2) := by decide +kernel
theorem dX6_stop_83 : decode cX6_stop 83 = .ok (.if_icmp .ge 39, 3) := by decide +kernel
theorem dX6_stop_86 : decode cX6_stop 86 = .ok (.aload_n 0, 1) := by decide +kernel
theorem dX6_stop_87 : decode cX6_stop 87 = .ok (.getfield 53, 3) := by decide +kernel
theorem dX6_stop_90 : decode cX6_stop 90 = .ok (.iload_n 2, 1) := by decide +kernel
theorem dX6_stop_91 : decode cX6_stop 91 = .ok (.aload_n 0, 1) := by decide +kernel
theorem dX6_stop_92 : decode cX6_stop 92 = .ok (.getfield 53, 3) := by decide +kernel
theorem dX6_stop_95 : decode cX6_stop 95 = .ok (.iload_n 2, 1) := by decide +kernel
theorem dX6_stop_96 : decode cX6_stop 96 = .ok (.baload, 1) := by decide +kernel
theorem dX6_stop_97 : decode cX6_stop 97 = .ok (.ifCond .eq 17, 3) := by decide +kernel
theorem dX6_stop_100 : decode cX6_stop 100 = .ok (.aload_n 0, 1) := by decide +kernel
theorem dX6_stop_101 : decode cX6_stop 101 = .ok (.getfield 19, 3) := by decide +kernel
theorem dX6_stop_104 : decode cX6_stop 104 = .ok (.iload_n 2, 1) := by decide +kernel
theorem dX6_stop_105 : decode cX6_stop 105 = .ok (.iaload, 1) := by decide +kernel
theorem dX6_stop_106 : decode cX6_stop 106 = .ok (.iload_n 1, 1) := by decide +kernel
theorem dX6_stop_107 : decode cX6_stop 107 = .ok (.if_icmp .eq 7, 3) := by decide +kernel
theorem dX6_stop_110 : decode cX6_stop 110 = .ok (.iconst 1, 1) := by decide +kernel
theorem dX6_stop_111 : decode cX6_stop 111 = .ok (.goto 4, 3) := by decide +kernel
theorem dX6_stop_114 : decode cX6_stop 114 = .ok (.iconst 0, 1) := by decide +kernel
theorem dX6_stop_115 : decode cX6_stop 115 = .ok (.bastore, 1) := by decide +kernel
theorem dX6_stop_116 : decode cX6_stop 116 = .ok (.iinc 2 1, 3) := by decide +kernel
theorem dX6_stop_119 : decode cX6_stop 119 = .ok (.goto (-39), 3) := by decide +kernel
theorem dX6_stop_122 : decode cX6_stop 122 = .ok (.iconst 0, 1) := by decide +kernel
theorem dX6_stop_123 : decode cX6_stop 123 = .ok (.ireturn, 1) := by decide +kernel
theorem dX6_belonging_0 : decode cX6_belonging 0 = .ok (.iconst 0, 1) := by decide +kernel
theorem dX6_belonging_1 : decode cX6_belonging 1 = .ok (.istore_n 2, 1) := by decide +kernel
theorem dX6_belonging_2 : decode cX6_belonging 2 = .ok (.iconst 0, 1) := by decide +kernel
theorem dX6_belonging_3 : decode cX6_belonging 3 = .ok (.istore_n 3, 1) := by decide +kernel
theorem dX6_belonging_4 : decode cX6_belonging 4 = .ok (.iload_n 3, 1) := by decide +kernel
theorem dX6_belonging_5 : decode cX6_belonging 5 = .ok (.bipush 20, 2) := by decide +kernel
theorem dX6_belonging_7 : decode cX6_belonging 7 = .ok (.if_icmp .ge 37, 3) := by decide +kernel
theorem dX6_belonging_10 : decode cX6_belonging 10 = .ok (.aload_n 0, 1) := by decide +kernel
theorem dX6_belonging_11 : decode cX6_belonging 11 = .ok (.getfield 16, 3) := by decide +kernel
theorem dX6_belonging_14 : decode cX6_belonging 14 = .ok (.iload_n 3, 1) := by decide +kernel
theorem dX6_belonging_15 : decode cX6_belonging 15 = .ok (.iaload, 1) := by decide +kernel
theorem dX6_belonging_16 : decode cX6_belonging 16 = .ok (.iconst 1, 1) := by decide +kernel
theorem dX6_belonging_17 : decode cX6_belonging 17 = .ok (.if_icmp .le 19, 3) := by decide +kernel
theorem dX6_belonging_20 : decode cX6_belonging 20 = .ok (.aload_n 0, 1) := by decide +kernel
theorem dX6_belonging_21 : decode cX6_belonging 21 = .ok (.getfield 19, 3) := by decide +kernel
theorem dX6_belonging_24 : decode cX6_belonging 24 = .ok (.iload_n 3, 1) := by decide +kernel
theorem dX6_belonging_25 : decode cX6_belonging 25 = .ok (.iaload, 1) := by decide +kernel
theorem dX6_belonging_26 : decode cX6_belonging 26 = .ok (.iload_n 1, 1) := by decide +kernel
theorem dX6_belonging_27 : decode cX6_belonging 27 = .ok (.if_icmp .ne 9, 3) := by decide +kernel
theorem dX6_belonging_30 : decode cX6_belonging 30 = .ok (.iload_n 2, 1) := by decide +kernel
theorem dX6_belonging_31 : decode cX6_belonging 31 = .ok (.iconst 1, 1) := by decide +kernel
theorem dX6_belonging_32 : decode cX6_belonging 32 = .ok (.iadd, 1) := by decide +kernel
theorem dX6_belonging_33 : decode cX6_belonging 33 = .ok (.goto 4, 3) := by decide +kernel
theorem dX6_belonging_36 : decode cX6_belonging 36 = .ok (.iload_n 2, 1) := by decide +kernel
theorem dX6_belonging_37 : decode cX6_belonging 37 = .ok (.istore_n 2, 1) := by decide +kernel
theorem dX6_belonging_38 : decode cX6_belonging 38 = .ok (.iinc 3 1, 3) := by decide +kernel
theorem dX6_belonging_41 : decode cX6_belonging 41 = .ok (.goto (-37), 3) := by decide +kernel
theorem dX6_belonging_44 : decode cX6_belonging 44 = .ok (.iload_n 2, 1) := by decide +kernel
theorem dX6_belonging_45 : decode cX6_belonging 45 = .ok (.ireturn, 1) := by decide +kernel
set_option maxRecDepth 20000 in
theorem ggX6_remove_X6_begin : GoodIn wsX6_remove wsX6_begin := goodIn_r _ [10, 11, 1, 31, 32, 33, 34, 35, 36, 37, 38, 39, 40, 41, 42, 43, 44, 45, 46, 47, 48, 49, 50, 51, 52, 53, 54, 55, 56, 57, 58, 59, 60, 61, 62] rfl (by decide +kernel)
set_option maxRecDepth 20000 in
theorem gX6_remove_X6_begin : GoodIn wsX6_remove (wsV RX6 203 RX6 yX6_begin wsX6_begin) := goodIn_app (goodIn_of _ (by decide +kernel)) ggX6_remove_X6_begin
set_option maxRecDepth 20000 in
theorem ggX6_remove_X6_noPage : GoodIn wsX6_remove wsX6_noPage := goodIn_r _ [14] rfl (by decide +kernel)
set_option maxRecDepth 20000 in
theorem gX6_remove_X6_noPage : GoodIn wsX6_remove (va_wsS RX6 186 yX6_noPage wsX6_noPage) := goodIn_app (goodIn_of _ (by decide +kernel)) ggX6_remove_X6_noPage
set_option maxRecDepth 20000 in
theorem ggX6_remove_X6_wrong : GoodIn wsX6_remove wsX6_wrong := goodIn_r _ [18, 1, 31, 32, 33, 34, 35, 36, 37, 38, 39, 40, 41, 42, 43, 44, 45, 46, 47, 48, 49, 50, 51, 52, 53, 54, 55, 56, 57, 58, 59, 60, 61, 62] rfl (by decide +kernel)
set_option maxRecDepth 20000 in
theorem gX6_remove_X6_wrong : GoodIn wsX6_remove (wsV RX6 193 RX6 yX6_wrong wsX6_wrong) := goodIn_app (goodIn_of _ (by decide +kernel)) ggX6_remove_X6_wrong
set_option maxRecDepth 20000 in
theorem ggX6_remove_X6_isKind : GoodIn wsX6_remove wsX6_isKind := goodIn_r _ [22, 2, 12, 13, 9, 14, 31, 32, 33, 34, 35, 36, 37, 38, 39, 40, 41, 42, 43, 44, 45, 46, 47, 48, 49, 50, 51, 52, 53, 54, 55, 56, 57, 58, 59, 60, 61, 62] rfl (by decide +kernel)
set_option maxRecDepth 20000 in
theorem gX6_remove_X6_isKind : GoodIn wsX6_remove (wsV RX6 189 RX6 yX6_isKind wsX6_isKind) := goodIn_app (goodIn_of _ (by decide +kernel)) ggX6_remove_X6_isKind
set_option maxRecDepth 20000 in
theorem ggX6_remove_X6_belonging : GoodIn wsX6_remove wsX6_belonging := goodIn_r _ [26, 2, 3, 31, 32, 33, 34, 35, 36, 37, 38, 39, 40, 41, 42, 43, 44, 45, 46, 47, 48, 49, 50, 51, 52, 53, 54, 55, 56, 57, 58, 59, 60, 61, 62] rfl (by decide +kernel)
set_option maxRecDepth 20000 in
theorem gX6_remove_X6_belonging : GoodIn wsX6_remove (wsV RX6 227 RX6 yX6_belonging wsX6_belonging) := goodIn_app (goodIn_of _ (by decide +kernel)) ggX6_remove_X6_belonging
set_option maxRecDepth 20000 in
theorem ggX6_remove_X6_become : GoodIn wsX6_remove wsX6_become := goodIn_r _ [30, 2, 3, 31, 32, 33, 34, 35, 36, 37, 38, 39, 40, 41, 42, 43, 44, 45, 46, 47, 48, 49, 50, 51, 52, 53, 54, 55, 56, 57, 58, 59, 60, 61, 62] rfl (by decide +kernel)
set_option maxRecDepth 20000 in
theorem gX6_remove_X6_become : GoodIn wsX6_remove (wsV RX6 209 RX6 yX6_become wsX6_become) := goodIn_app (goodIn_of _ (by decide +kernel)) ggX6_remove_X6_become
theorem dX6_remove_0 : decode cX6_remove 0 = .ok (.aload_n 0, 1) := by decide +kernel
theorem dX6_remove_1 : decode cX6_remove 1 = .ok (.invokevirtual 203, 3) := by decide +kernel
theorem dX6_remove_4 : decode cX6_remove 4 = .ok (.aload_n 0, 1) := by decide +kernel
theorem dX6_remove_5 : decode cX6_remove 5 = .ok (.iload_n 1, 1) := by decide +kernel
theorem dX6_remove_6 : decode cX6_remove 6 = .ok (.invokestatic 186, 3) := by decide +kernel
theorem dX6_remove_9 : decode cX6_remove 9 = .ok (.iconst 1, 1) := by decide +kernel
theorem dX6_remove_10 : decode cX6_remove 10 = .ok (.invokevirtual 193, 3) := by decide +kernel
theorem dX6_remove_13 : decode cX6_remove 13 = .ok (.aload_n 0, 1) := by decide +kernel
theorem dX6_remove_14 : decode cX6_remove 14 = .ok (.aload_n 0, 1) := by decide +kernel
theorem dX6_remove_15 : decode cX6_remove 15 = .ok (.iload_n 1, 1) := by decide +kernel
theorem dX6_remove_16 : decode cX6_remove 16 = .ok (.iconst 0, 1) := by decide +kernel
theorem dX6_remove_17 : decode cX6_remove 17 = .ok (.invokevirtual 189, 3) := by decide +kernel
theorem dX6_remove_20 : decode cX6_remove 20 = .ok (.iconst 3, 1) := by decide +kernel
theorem dX6_remove_21 : decode cX6_remove 21 = .ok (.invokevirtual 193, 3) := by decide +kernel
theorem dX6_remove_24 : decode cX6_remove 24 = .ok (.aload_n 0, 1) := by decide +kernel
theorem dX6_remove_25 : decode cX6_remove 25 = .ok (.getfield 183, 3) := by decide +kernel
theorem dX6_remove_28 : decode cX6_remove 28 = .ok (.ifCond .le 8, 3) := by decide +kernel
theorem dX6_remove_31 : decode cX6_remove 31 = .ok (.aload_n 0, 1) := by decide +kernel
theorem dX6_remove_32 : decode cX6_remove 32 = .ok (.getfield 183, 3) := by decide +kernel
theorem dX6_remove_35 : decode cX6_remove 35 = .ok (.ireturn, 1) := by decide +kernel
theorem dX6_remove_36 : decode cX6_remove 36 = .ok (.aload_n 0, 1) := by decide +kernel
theorem dX6_remove_37 : decode cX6_remove 37 = .ok (.getfield 16, 3) := by decide +kernel
theorem dX6_remove_40 : decode cX6_remove 40 = .ok (.iload_n 1, 1) := by decide +kernel
theorem dX6_remove_41 : decode cX6_remove 41 = .ok (.iaload, 1) := by decide +kernel
theorem dX6_remove_42 : decode cX6_remove 42 = .ok (.iconst 1, 1) := by decide +kernel
theorem dX6_remove_43 : decode cX6_remove 43 = .ok (.if_icmp .ne 7, 3) := by decide +kernel
theorem dX6_remove_46 : decode cX6_remove 46 = .ok (.iload_n 1, 1) := by decide +kernel
theorem dX6_remove_47 : decode cX6_remove 47 = .ok (.goto 9, 3) := by decide +kernel
theorem dX6_remove_50 : decode cX6_remove 50 = .ok (.aload_n 0, 1) := by decide +kernel
theorem dX6_remove_51 : decode cX6_remove 51 = .ok (.getfield 19, 3) := by decide +kernel
theorem dX6_remove_54 : decode cX6_remove 54 = .ok (.iload_n 1, 1) := by decide +kernel
theorem dX6_remove_55 : decode cX6_remove 55 = .ok (.iaload, 1) := by decide +kernel
theorem dX6_remove_56 : decode cX6_remove 56 = .ok (.istore_n 2, 1) := by decide +kernel
theorem dX6_remove_57 : decode cX6_remove 57 = .ok (.aload_n 0, 1) := by decide +kernel
theorem dX6_remove_58 : decode cX6_remove 58 = .ok (.aload_n 0, 1) := by decide +kernel
theorem dX6_remove_59 : decode cX6_remove 59 = .ok (.getfield 16, 3) := by decide +kernel
theorem dX6_remove_62 : decode cX6_remove 62 = .ok (.iload_n 1, 1) := by decide +kernel
theorem dX6_remove_63 : decode cX6_remove 63 = .ok (.iaload, 1) := by decide +kernel
theorem dX6_remove_64 : decode cX6_remove 64 = .ok (.iconst 5, 1) := by decide +kernel
theorem dX6_remove_65 : decode cX6_remove 65 = .ok (.if_icmp .eq 17, 3) := by decide +kernel
theorem dX6_remove_68 : decode cX6_remove 68 = .ok (.aload_n 0, 1) := by decide +kernel
theorem dX6_remove_69 : decode cX6_remove 69 = .ok (.getfield 22, 3) := by decide +kernel
theorem dX6_remove_72 : decode cX6_remove 72 = .ok (.iload_n 2, 1) := by decide +kernel
theorem dX6_remove_73 : decode cX6_remove 73 = .ok (.iaload, 1) := by decide +kernel
theorem dX6_remove_74 : decode cX6_remove 74 = .ok (.iconst 2, 1) := by decide +kernel
theorem dX6_remove_75 : decode cX6_remove 75 = .ok (.if_icmp .eq 7, 3) := by decide +kernel
theorem dX6_remove_78 : decode cX6_remove 78 = .ok (.iconst 1, 1) := by decide +kernel
theorem dX6_remove_79 : decode cX6_remove 79 = .ok (.goto 4, 3) := by decide +kernel
theorem dX6_remove_82 : decode cX6_remove 82 = .ok (.iconst 0, 1) := by decide +kernel
theorem dX6_remove_83 : decode cX6_remove 83 = .ok (.iconst 4, 1) := by decide +kernel

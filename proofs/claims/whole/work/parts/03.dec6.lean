theorem dX6_wantThread_86 : decode cX6_wantThread 86 = .ok (.getfield 183, 3) := by decide +kernel
theorem dX6_wantThread_89 : decode cX6_wantThread 89 = .ok (.ifCond .ne 17, 3) := by decide +kernel
theorem dX6_wantThread_92 : decode cX6_wantThread 92 = .ok (.aload_n 0, 1) := by decide +kernel
theorem dX6_wantThread_93 : decode cX6_wantThread 93 = .ok (.getfield 53, 3) := by decide +kernel
theorem dX6_wantThread_96 : decode cX6_wantThread 96 = .ok (.iload_n 1, 1) := by decide +kernel
theorem dX6_wantThread_97 : decode cX6_wantThread 97 = .ok (.baload, 1) := by decide +kernel
theorem dX6_wantThread_98 : decode cX6_wantThread 98 = .ok (.iload_n 3, 1) := by decide +kernel
theorem dX6_wantThread_99 : decode cX6_wantThread 99 = .ok (.if_icmp .eq 7, 3) := by decide +kernel
theorem dX6_wantThread_102 : decode cX6_wantThread 102 = .ok (.iconst 1, 1) := by decide +kernel
theorem dX6_wantThread_103 : decode cX6_wantThread 103 = .ok (.goto 4, 3) := by decide +kernel
theorem dX6_wantThread_106 : decode cX6_wantThread 106 = .ok (.iconst 0, 1) := by decide +kernel
theorem dX6_wantThread_107 : decode cX6_wantThread 107 = .ok (.bipush 6, 2) := by decide +kernel
theorem dX6_wantThread_109 : decode cX6_wantThread 109 = .ok (.invokevirtual 193, 3) := by decide +kernel
theorem dX6_wantThread_112 : decode cX6_wantThread 112 = .ok (.return_, 1) := by decide +kernel
set_option maxRecDepth 20000 in
theorem ggX6_enter_X6_wantThread : GoodIn wsX6_enter wsX6_wantThread := goodIn_r _ [10, 1, 11, 12, 13, 14, 15, 16, 9, 17, 18, 19, 20, 21, 22, 23, 24, 25, 26, 27, 28, 29, 30, 125, 126, 127, 128, 129, 130, 131, 132, 133, 134, 135, 136, 137, 138, 139, 140, 141, 142, 143, 144, 145, 146, 147, 148, 149, 150, 151, 152, 153, 154, 155, 156] rfl (by decide +kernel)
set_option maxRecDepth 20000 in
theorem gX6_enter_X6_wantThread : GoodIn wsX6_enter (wsV RX6 279 RX6 yX6_wantThread wsX6_wantThread) := goodIn_app (goodIn_of _ (by decide +kernel)) ggX6_enter_X6_wantThread
set_option maxRecDepth 20000 in
theorem ggX6_enter_X6_run : GoodIn wsX6_enter wsX6_run := goodIn_r _ [34, 12, 2, 35, 13, 36, 37, 38, 39, 3, 5, 40, 41, 42, 9, 43, 44, 45, 46, 47, 48, 49, 50, 51, 52, 53, 54, 55, 56, 57, 58, 59, 60, 61, 62, 63, 64, 65, 66, 67, 68, 69, 70, 71, 72, 73, 74, 75, 76, 77, 78, 79, 80, 81, 82, 83, 84, 85, 86, 87, 88, 89, 90, 91, 92, 93, 94, 95, 96, 97, 98, 99, 100, 101, 102, 103, 104, 105, 106, 107, 108, 109, 26, 27, 28, 29, 30, 19, 20, 21, 110, 111, 112, 113, 114, 115, 116, 117, 118, 119, 120, 121, 122, 123, 124, 125, 126, 127, 128, 129, 130, 131, 132, 133, 134, 135, 136, 137, 138, 139, 140, 141, 142, 143, 144, 145, 146, 147, 148, 149, 150, 151, 152, 153, 154, 155, 156] rfl (by decide +kernel)
set_option maxRecDepth 20000 in
theorem gX6_enter_X6_run : GoodIn wsX6_enter (wsV RX6 283 RX6 yX6_run wsX6_run) := goodIn_app (goodIn_of _ (by decide +kernel)) ggX6_enter_X6_run
theorem dX6_enter_0 : decode cX6_enter 0 = .ok (.aload_n 0, 1) := by decide +kernel
theorem dX6_enter_1 : decode cX6_enter 1 = .ok (.iload_n 1, 1) := by decide +kernel
theorem dX6_enter_2 : decode cX6_enter 2 = .ok (.iload 4, 2) := by decide +kernel
theorem dX6_enter_4 : decode cX6_enter 4 = .ok (.iconst 0, 1) := by decide +kernel
theorem dX6_enter_5 : decode cX6_enter 5 = .ok (.invokevirtual 279, 3) := by decide +kernel
theorem dX6_enter_8 : decode cX6_enter 8 = .ok (.aload_n 0, 1) := by decide +kernel
theorem dX6_enter_9 : decode cX6_enter 9 = .ok (.getfield 183, 3) := by decide +kernel
theorem dX6_enter_12 : decode cX6_enter 12 = .ok (.ifCond .le 8, 3) := by decide +kernel
theorem dX6_enter_15 : decode cX6_enter 15 = .ok (.aload_n 0, 1) := by decide +kernel
theorem dX6_enter_16 : decode cX6_enter 16 = .ok (.getfield 183, 3) := by decide +kernel
theorem dX6_enter_19 : decode cX6_enter 19 = .ok (.ireturn, 1) := by decide +kernel
theorem dX6_enter_20 : decode cX6_enter 20 = .ok (.aload_n 0, 1) := by decide +kernel
theorem dX6_enter_21 : decode cX6_enter 21 = .ok (.iload_n 1, 1) := by decide +kernel
theorem dX6_enter_22 : decode cX6_enter 22 = .ok (.putfield 269, 3) := by decide +kernel
theorem dX6_enter_25 : decode cX6_enter 25 = .ok (.aload_n 0, 1) := by decide +kernel
theorem dX6_enter_26 : decode cX6_enter 26 = .ok (.getfield 59, 3) := by decide +kernel
theorem dX6_enter_29 : decode cX6_enter 29 = .ok (.iconst 0, 1) := by decide +kernel
theorem dX6_enter_30 : decode cX6_enter 30 = .ok (.iload_n 2, 1) := by decide +kernel
theorem dX6_enter_31 : decode cX6_enter 31 = .ok (.iastore, 1) := by decide +kernel
theorem dX6_enter_32 : decode cX6_enter 32 = .ok (.aload_n 0, 1) := by decide +kernel
theorem dX6_enter_33 : decode cX6_enter 33 = .ok (.getfield 59, 3) := by decide +kernel
theorem dX6_enter_36 : decode cX6_enter 36 = .ok (.iconst 1, 1) := by decide +kernel
theorem dX6_enter_37 : decode cX6_enter 37 = .ok (.iload_n 3, 1) := by decide +kernel
theorem dX6_enter_38 : decode cX6_enter 38 = .ok (.iastore, 1) := by decide +kernel
theorem dX6_enter_39 : decode cX6_enter 39 = .ok (.aload_n 0, 1) := by decide +kernel
theorem dX6_enter_40 : decode cX6_enter 40 = .ok (.getfield 59, 3) := by decide +kernel
theorem dX6_enter_43 : decode cX6_enter 43 = .ok (.iconst 2, 1) := by decide +kernel
theorem dX6_enter_44 : decode cX6_enter 44 = .ok (.iconst 0, 1) := by decide +kernel
theorem dX6_enter_45 : decode cX6_enter 45 = .ok (.iastore, 1) := by decide +kernel
theorem dX6_enter_46 : decode cX6_enter 46 = .ok (.aload_n 0, 1) := by decide +kernel
theorem dX6_enter_47 : decode cX6_enter 47 = .ok (.getfield 59, 3) := by decide +kernel
theorem dX6_enter_50 : decode cX6_enter 50 = .ok (.iconst 3, 1) := by decide +kernel
theorem dX6_enter_51 : decode cX6_enter 51 = .ok (.iconst 0, 1) := by decide +kernel
theorem dX6_enter_52 : decode cX6_enter 52 = .ok (.iastore, 1) := by decide +kernel
theorem dX6_enter_53 : decode cX6_enter 53 = .ok (.aload_n 0, 1) := by decide +kernel
theorem dX6_enter_54 : decode cX6_enter 54 = .ok (.aload_n 0, 1) := by decide +kernel
theorem dX6_enter_55 : decode cX6_enter 55 = .ok (.getfield 50, 3) := by decide +kernel
theorem dX6_enter_58 : decode cX6_enter 58 = .ok (.iload_n 1, 1) := by decide +kernel
theorem dX6_enter_59 : decode cX6_enter 59 = .ok (.iaload, 1) := by decide +kernel
theorem dX6_enter_60 : decode cX6_enter 60 = .ok (.putfield 250, 3) := by decide +kernel
theorem dX6_enter_63 : decode cX6_enter 63 = .ok (.aload_n 0, 1) := by decide +kernel
theorem dX6_enter_64 : decode cX6_enter 64 = .ok (.iload 4, 2) := by decide +kernel
theorem dX6_enter_66 : decode cX6_enter 66 = .ok (.invokevirtual 283, 3) := by decide +kernel
theorem dX6_enter_69 : decode cX6_enter 69 = .ok (.ireturn, 1) := by decide +kernel
set_option maxRecDepth 20000 in
theorem ggX6_resume_X6_wantThread : GoodIn wsX6_resume wsX6_wantThread := goodIn_r _ [10, 1, 11, 12, 13, 14, 15, 16, 9, 17, 18, 19, 20, 21, 22, 23, 24, 25, 26, 27, 28, 29, 30, 124, 125, 126, 127, 128, 129, 130, 131, 132, 133, 134, 135, 136, 137, 138, 139, 140, 141, 142, 143, 144, 145, 146, 147, 148, 149, 150, 151, 152, 153, 154, 155] rfl (by decide +kernel)
set_option maxRecDepth 20000 in
theorem gX6_resume_X6_wantThread : GoodIn wsX6_resume (wsV RX6 279 RX6 yX6_wantThread wsX6_wantThread) := goodIn_app (goodIn_of _ (by decide +kernel)) ggX6_resume_X6_wantThread
set_option maxRecDepth 20000 in
theorem ggX6_resume_X6_run : GoodIn wsX6_resume wsX6_run := goodIn_r _ [34, 12, 2, 35, 13, 36, 37, 38, 4, 3, 5, 39, 40, 41, 9, 42, 43, 44, 45, 46, 47, 48, 49, 50, 51, 52, 53, 54, 55, 56, 57, 58, 59, 60, 61, 62, 63, 64, 65, 66, 67, 68, 69, 70, 71, 72, 73, 74, 75, 76, 77, 78, 79, 80, 81, 82, 83, 84, 85, 86, 87, 88, 89, 90, 91, 92, 93, 94, 95, 96, 97, 98, 99, 100, 101, 102, 103, 104, 105, 106, 107, 108, 26, 27, 28, 29, 30, 19, 20, 21, 109, 110, 111, 112, 113, 114, 115, 116, 117, 118, 119, 120, 121, 122, 123, 124, 125, 126, 127, 128, 129, 130, 131, 132, 133, 134, 135, 136, 137, 138, 139, 140, 141, 142, 143, 144, 145, 146, 147, 148, 149, 150, 151, 152, 153, 154, 155] rfl (by decide +kernel)
set_option maxRecDepth 20000 in
theorem gX6_resume_X6_run : GoodIn wsX6_resume (wsV RX6 283 RX6 yX6_run wsX6_run) := goodIn_app (goodIn_of _ (by decide +kernel)) ggX6_resume_X6_run
theorem dX6_resume_0 : decode cX6_resume 0 = .ok (.aload_n 0, 1) := by decide +kernel
theorem dX6_resume_1 : decode cX6_resume 1 = .ok (.iload_n 1, 1) := by decide +kernel
theorem dX6_resume_2 : decode cX6_resume 2 = .ok (.iload_n 2, 1) := by decide +kernel
theorem dX6_resume_3 : decode cX6_resume 3 = .ok (.iconst 1, 1) := by decide +kernel
theorem dX6_resume_4 : decode cX6_resume 4 = .ok (.invokevirtual 279, 3) := by decide +kernel
theorem dX6_resume_7 : decode cX6_resume 7 = .ok (.aload_n 0, 1) := by decide +kernel
theorem dX6_resume_8 : decode cX6_resume 8 = .ok (.getfield 183, 3) := by decide +kernel
theorem dX6_resume_11 : decode cX6_resume 11 = .ok (.ifCond .le 8, 3) := by decide +kernel
theorem dX6_resume_14 : decode cX6_resume 14 = .ok (.aload_n 0, 1) := by decide +kernel
theorem dX6_resume_15 : decode cX6_resume 15 = .ok (.getfield 183, 3) := by decide +kernel
theorem dX6_resume_18 : decode cX6_resume 18 = .ok (.ireturn, 1) := by decide +kernel
theorem dX6_resume_19 : decode cX6_resume 19 = .ok (.aload_n 0, 1) := by decide +kernel
theorem dX6_resume_20 : decode cX6_resume 20 = .ok (.iload_n 1, 1) := by decide +kernel
theorem dX6_resume_21 : decode cX6_resume 21 = .ok (.putfield 269, 3) := by decide +kernel
theorem dX6_resume_24 : decode cX6_resume 24 = .ok (.iconst 0, 1) := by decide +kernel
theorem dX6_resume_25 : decode cX6_resume 25 = .ok (.istore_n 3, 1) := by decide +kernel
theorem dX6_resume_26 : decode cX6_resume 26 = .ok (.iload_n 3, 1) := by decide +kernel
theorem dX6_resume_27 : decode cX6_resume 27 = .ok (.iconst 4, 1) := by decide +kernel
theorem dX6_resume_28 : decode cX6_resume 28 = .ok (.if_icmp .ge 25, 3) := by decide +kernel
theorem dX6_resume_31 : decode cX6_resume 31 = .ok (.aload_n 0, 1) := by decide +kernel
theorem dX6_resume_32 : decode cX6_resume 32 = .ok (.getfield 59, 3) := by decide +kernel
theorem dX6_resume_35 : decode cX6_resume 35 = .ok (.iload_n 3, 1) := by decide +kernel
theorem dX6_resume_36 : decode cX6_resume 36 = .ok (.aload_n 0, 1) := by decide +kernel
theorem dX6_resume_37 : decode cX6_resume 37 = .ok (.getfield 56, 3) := by decide +kernel
theorem dX6_resume_40 : decode cX6_resume 40 = .ok (.iconst 5, 1) := by decide +kernel
theorem dX6_resume_41 : decode cX6_resume 41 = .ok (.iload_n 1, 1) := by decide +kernel
theorem dX6_resume_42 : decode cX6_resume 42 = .ok (.imul, 1) := by decide +kernel
theorem dX6_resume_43 : decode cX6_resume 43 = .ok (.iload_n 3, 1) := by decide +kernel
theorem dX6_resume_44 : decode cX6_resume 44 = .ok (.iadd, 1) := by decide +kernel
theorem dX6_resume_45 : decode cX6_resume 45 = .ok (.iaload, 1) := by decide +kernel
theorem dX6_resume_46 : decode cX6_resume 46 = .ok (.iastore, 1) := by decide +kernel
theorem dX6_resume_47 : decode cX6_resume 47 = .ok (.iinc 3 1, 3) := by decide +kernel
theorem dX6_resume_50 : decode cX6_resume 50 = .ok (.goto (-24), 3) := by decide +kernel
theorem dX6_resume_53 : decode cX6_resume 53 = .ok (.aload_n 0, 1) := by decide +kernel
theorem dX6_resume_54 : decode cX6_resume 54 = .ok (.aload_n 0, 1) := by decide +kernel
theorem dX6_resume_55 : decode cX6_resume 55 = .ok (.getfield 56, 3) := by decide +kernel
theorem dX6_resume_58 : decode cX6_resume 58 = .ok (.iconst 5, 1) := by decide +kernel
theorem dX6_resume_59 : decode cX6_resume 59 = .ok (.iload_n 1, 1) := by decide +kernel
theorem dX6_resume_60 : decode cX6_resume 60 = .ok (.imul, 1) := by decide +kernel
theorem dX6_resume_61 : decode cX6_resume 61 = .ok (.iconst 4, 1) := by decide +kernel
theorem dX6_resume_62 : decode cX6_resume 62 = .ok (.iadd, 1) := by decide +kernel
theorem dX6_resume_63 : decode cX6_resume 63 = .ok (.iaload, 1) := by decide +kernel
theorem dX6_resume_64 : decode cX6_resume 64 = .ok (.putfield 250, 3) := by decide +kernel
theorem dX6_resume_67 : decode cX6_resume 67 = .ok (.aload_n 0, 1) := by decide +kernel
theorem dX6_resume_68 : decode cX6_resume 68 = .ok (.iload_n 2, 1) := by decide +kernel
theorem dX6_resume_69 : decode cX6_resume 69 = .ok (.invokevirtual 283, 3) := by decide +kernel
theorem dX6_resume_72 : decode cX6_resume 72 = .ok (.ireturn, 1) := by decide +kernel
theorem dX6_result_0 : decode cX6_result 0 = .ok (.aload_n 0, 1) := by decide +kernel
theorem dX6_result_1 : decode cX6_result 1 = .ok (.iconst 0, 1) := by decide +kernel
theorem dX6_result_2 : decode cX6_result 2 = .ok (.putfield 158, 3) := by decide +kernel
theorem dX6_result_5 : decode cX6_result 5 = .ok (.aload_n 0, 1) := by decide +kernel
theorem dX6_result_6 : decode cX6_result 6 = .ok (.getfield 162, 3) := by decide +kernel
theorem dX6_result_9 : decode cX6_result 9 = .ok (.ireturn, 1) := by decide +kernel
theorem dX6_steps_0 : decode cX6_steps 0 = .ok (.aload_n 0, 1) := by decide +kernel
theorem dX6_steps_1 : decode cX6_steps 1 = .ok (.iconst 0, 1) := by decide +kernel
theorem dX6_steps_2 : decode cX6_steps 2 = .ok (.putfield 158, 3) := by decide +kernel
theorem dX6_steps_5 : decode cX6_steps 5 = .ok (.aload_n 0, 1) := by decide +kernel
theorem dX6_steps_6 : decode cX6_steps 6 = .ok (.getfield 272, 3) := by decide +kernel
theorem dX6_steps_9 : decode cX6_steps 9 = .ok (.ireturn, 1) := by decide +kernel
set_option maxRecDepth 20000 in
theorem ggX6_told_X6_noPage : GoodIn wsX6_told wsX6_noPage := goodIn_r _ [9] rfl (by decide +kernel)
set_option maxRecDepth 20000 in
theorem gX6_told_X6_noPage : GoodIn wsX6_told (va_wsS RX6 186 yX6_noPage wsX6_noPage) := goodIn_app (goodIn_of _ (by decide +kernel)) ggX6_told_X6_noPage
set_option maxRecDepth 20000 in
theorem ggX6_told_X6_belonging : GoodIn wsX6_told wsX6_belonging := goodIn_r _ [13, 2, 3, 14, 15, 16, 17, 18, 19, 20, 21, 22, 23, 24, 25, 26, 27, 28, 29, 30, 31, 32, 33, 34, 35, 36, 37, 38, 39, 40, 41, 42, 43, 44, 45] rfl (by decide +kernel)
set_option maxRecDepth 20000 in
theorem gX6_told_X6_belonging : GoodIn wsX6_told (wsV RX6 227 RX6 yX6_belonging wsX6_belonging) := goodIn_app (goodIn_of _ (by decide +kernel)) ggX6_told_X6_belonging
theorem dX6_told_0 : decode cX6_told 0 = .ok (.aload_n 0, 1) := by decide +kernel
theorem dX6_told_1 : decode cX6_told 1 = .ok (.iload_n 1, 1) := by decide +kernel
theorem dX6_told_2 : decode cX6_told 2 = .ok (.invokestatic 186, 3) := by decide +kernel
theorem dX6_told_5 : decode cX6_told 5 = .ok (.ifCond .eq 7, 3) := by decide +kernel
theorem dX6_told_8 : decode cX6_told 8 = .ok (.iconst 1, 1) := by decide +kernel
theorem dX6_told_9 : decode cX6_told 9 = .ok (.goto 17, 3) := by decide +kernel
theorem dX6_told_12 : decode cX6_told 12 = .ok (.iload_n 2, 1) := by decide +kernel
theorem dX6_told_13 : decode cX6_told 13 = .ok (.ifCond .lt 8, 3) := by decide +kernel
theorem dX6_told_16 : decode cX6_told 16 = .ok (.iload_n 2, 1) := by decide +kernel
theorem dX6_told_17 : decode cX6_told 17 = .ok (.iconst 3, 1) := by decide +kernel
theorem dX6_told_18 : decode cX6_told 18 = .ok (.if_icmp .le 7, 3) := by decide +kernel
theorem dX6_told_21 : decode cX6_told 21 = .ok (.iconst 2, 1) := by decide +kernel
theorem dX6_told_22 : decode cX6_told 22 = .ok (.goto 4, 3) := by decide +kernel
theorem dX6_told_25 : decode cX6_told 25 = .ok (.iconst 0, 1) := by decide +kernel
theorem dX6_told_26 : decode cX6_told 26 = .ok (.putfield 158, 3) := by decide +kernel
theorem dX6_told_29 : decode cX6_told 29 = .ok (.aload_n 0, 1) := by decide +kernel
theorem dX6_told_30 : decode cX6_told 30 = .ok (.getfield 158, 3) := by decide +kernel
theorem dX6_told_33 : decode cX6_told 33 = .ok (.ifCond .le 5, 3) := by decide +kernel
theorem dX6_told_36 : decode cX6_told 36 = .ok (.iconst 0, 1) := by decide +kernel
theorem dX6_told_37 : decode cX6_told 37 = .ok (.ireturn, 1) := by decide +kernel
theorem dX6_told_38 : decode cX6_told 38 = .ok (.iload_n 2, 1) := by decide +kernel
theorem dX6_told_39 : decode cX6_told 39 = .ok (.ifCond .ne 10, 3) := by decide +kernel
theorem dX6_told_42 : decode cX6_told 42 = .ok (.aload_n 0, 1) := by decide +kernel
theorem dX6_told_43 : decode cX6_told 43 = .ok (.getfield 16, 3) := by decide +kernel
theorem dX6_told_46 : decode cX6_told 46 = .ok (.iload_n 1, 1) := by decide +kernel
theorem dX6_told_47 : decode cX6_told 47 = .ok (.iaload, 1) := by decide +kernel
theorem dX6_told_48 : decode cX6_told 48 = .ok (.ireturn, 1) := by decide +kernel
theorem dX6_told_49 : decode cX6_told 49 = .ok (.iload_n 2, 1) := by decide +kernel
theorem dX6_told_50 : decode cX6_told 50 = .ok (.iconst 1, 1) := by decide +kernel
theorem dX6_told_51 : decode cX6_told 51 = .ok (.if_icmp .ne 24, 3) := by decide +kernel
theorem dX6_told_54 : decode cX6_told 54 = .ok (.aload_n 0, 1) := by decide +kernel
theorem dX6_told_55 : decode cX6_told 55 = .ok (.getfield 16, 3) := by decide +kernel
theorem dX6_told_58 : decode cX6_told 58 = .ok (.iload_n 1, 1) := by decide +kernel
theorem dX6_told_59 : decode cX6_told 59 = .ok (.iaload, 1) := by decide +kernel
theorem dX6_told_60 : decode cX6_told 60 = .ok (.iconst 1, 1) := by decide +kernel
theorem dX6_told_61 : decode cX6_told 61 = .ok (.if_icmp .le 12, 3) := by decide +kernel
theorem dX6_told_64 : decode cX6_told 64 = .ok (.aload_n 0, 1) := by decide +kernel
theorem dX6_told_65 : decode cX6_told 65 = .ok (.getfield 19, 3) := by decide +kernel
theorem dX6_told_68 : decode cX6_told 68 = .ok (.iload_n 1, 1) := by decide +kernel
theorem dX6_told_69 : decode cX6_told 69 = .ok (.iaload, 1) := by decide +kernel
theorem dX6_told_70 : decode cX6_told 70 = .ok (.goto 4, 3) := by decide +kernel
theorem dX6_told_73 : decode cX6_told 73 = .ok (.iconst (-1), 1) := by decide +kernel
theorem dX6_told_74 : decode cX6_told 74 = .ok (.ireturn, 1) := by decide +kernel
theorem dX6_told_75 : decode cX6_told 75 = .ok (.iload_n 2, 1) := by decide +kernel
theorem dX6_told_76 : decode cX6_told 76 = .ok (.iconst 2, 1) := by decide +kernel
theorem dX6_told_77 : decode cX6_told 77 = .ok (.if_icmp .ne 47, 3) := by decide +kernel
theorem dX6_told_80 : decode cX6_told 80 = .ok (.aload_n 0, 1) := by decide +kernel
theorem dX6_told_81 : decode cX6_told 81 = .ok (.getfield 16, 3) := by decide +kernel
theorem dX6_told_84 : decode cX6_told 84 = .ok (.iload_n 1, 1) := by decide +kernel
theorem dX6_told_85 : decode cX6_told 85 = .ok (.iaload, 1) := by decide +kernel
theorem dX6_told_86 : decode cX6_told 86 = .ok (.iconst 1, 1) := by decide +kernel
theorem dX6_told_87 : decode cX6_told 87 = .ok (.if_icmp .ne 12, 3) := by decide +kernel
theorem dX6_told_90 : decode cX6_told 90 = .ok (.aload_n 0, 1) := by decide +kernel
theorem dX6_told_91 : decode cX6_told 91 = .ok (.getfield 22, 3) := by decide +kernel
theorem dX6_told_94 : decode cX6_told 94 = .ok (.iload_n 1, 1) := by decide +kernel
theorem dX6_told_95 : decode cX6_told 95 = .ok (.iaload, 1) := by decide +kernel
theorem dX6_told_96 : decode cX6_told 96 = .ok (.goto 27, 3) := by decide +kernel
theorem dX6_told_99 : decode cX6_told 99 = .ok (.aload_n 0, 1) := by decide +kernel
theorem dX6_told_100 : decode cX6_told 100 = .ok (.getfield 16, 3) := by decide +kernel
theorem dX6_told_103 : decode cX6_told 103 = .ok (.iload_n 1, 1) := by decide +kernel
theorem dX6_told_104 : decode cX6_told 104 = .ok (.iaload, 1) := by decide +kernel
theorem dX6_told_105 : decode cX6_told 105 = .ok (.iconst 2, 1) := by decide +kernel
theorem dX6_told_106 : decode cX6_told 106 = .ok (.if_icmp .ne 16, 3) := by decide +kernel
theorem dX6_told_109 : decode cX6_told 109 = .ok (.aload_n 0, 1) := by decide +kernel
theorem dX6_told_110 : decode cX6_told 110 = .ok (.getfield 53, 3) := by decide +kernel
theorem dX6_told_113 : decode cX6_told 113 = .ok (.iload_n 1, 1) := by decide +kernel
theorem dX6_told_114 : decode cX6_told 114 = .ok (.baload, 1) := by decide +kernel
theorem dX6_told_115 : decode cX6_told 115 = .ok (.ifCond .eq 7, 3) := by decide +kernel
theorem dX6_told_118 : decode cX6_told 118 = .ok (.iconst 1, 1) := by decide +kernel
theorem dX6_told_119 : decode cX6_told 119 = .ok (.goto 4, 3) := by decide +kernel
theorem dX6_told_122 : decode cX6_told 122 = .ok (.iconst 0, 1) := by decide +kernel
theorem dX6_told_123 : decode cX6_told 123 = .ok (.ireturn, 1) := by decide +kernel
theorem dX6_told_124 : decode cX6_told 124 = .ok (.aload_n 0, 1) := by decide +kernel
theorem dX6_told_125 : decode cX6_told 125 = .ok (.getfield 16, 3) := by decide +kernel
theorem dX6_told_128 : decode cX6_told 128 = .ok (.iload_n 1, 1) := by decide +kernel
theorem dX6_told_129 : decode cX6_told 129 = .ok (.iaload, 1) := by decide +kernel
theorem dX6_told_130 : decode cX6_told 130 = .ok (.iconst 1, 1) := by decide +kernel
theorem dX6_told_131 : decode cX6_told 131 = .ok (.if_icmp .ne 11, 3) := by decide +kernel
theorem dX6_told_134 : decode cX6_told 134 = .ok (.aload_n 0, 1) := by decide +kernel
theorem dX6_told_135 : decode cX6_told 135 = .ok (.iload_n 1, 1) := by decide +kernel
theorem dX6_told_136 : decode cX6_told 136 = .ok (.invokevirtual 227, 3) := by decide +kernel
theorem dX6_told_139 : decode cX6_told 139 = .ok (.goto 4, 3) := by decide +kernel
theorem dX6_told_142 : decode cX6_told 142 = .ok (.iconst 0, 1) := by decide +kernel
theorem dX6_told_143 : decode cX6_told 143 = .ok (.ireturn, 1) := by decide +kernel
set_option maxRecDepth 20000 in
theorem ggX6_measure_X6_noPage : GoodIn wsX6_measure wsX6_noPage := goodIn_r _ [8] rfl (by decide +kernel)
set_option maxRecDepth 20000 in
theorem gX6_measure_X6_noPage : GoodIn wsX6_measure (va_wsS RX6 186 yX6_noPage wsX6_noPage) := goodIn_app (goodIn_of _ (by decide +kernel)) ggX6_measure_X6_noPage
theorem dX6_measure_0 : decode cX6_measure 0 = .ok (.aload_n 0, 1) := by decide +kernel
theorem dX6_measure_1 : decode cX6_measure 1 = .ok (.iload_n 1, 1) := by decide +kernel
theorem dX6_measure_2 : decode cX6_measure 2 = .ok (.invokestatic 186, 3) := by decide +kernel
theorem dX6_measure_5 : decode cX6_measure 5 = .ok (.ifCond .ne 13, 3) := by decide +kernel
theorem dX6_measure_8 : decode cX6_measure 8 = .ok (.iload_n 2, 1) := by decide +kernel
theorem dX6_measure_9 : decode cX6_measure 9 = .ok (.ifCond .lt 9, 3) := by decide +kernel
theorem dX6_measure_12 : decode cX6_measure 12 = .ok (.iload_n 2, 1) := by decide +kernel
theorem dX6_measure_13 : decode cX6_measure 13 = .ok (.bipush 7, 2) := by decide +kernel
theorem dX6_measure_15 : decode cX6_measure 15 = .ok (.if_icmp .le 7, 3) := by decide +kernel
theorem dX6_measure_18 : decode cX6_measure 18 = .ok (.iconst 1, 1) := by decide +kernel
theorem dX6_measure_19 : decode cX6_measure 19 = .ok (.goto 27, 3) := by decide +kernel
theorem dX6_measure_22 : decode cX6_measure 22 = .ok (.aload_n 0, 1) := by decide +kernel
theorem dX6_measure_23 : decode cX6_measure 23 = .ok (.getfield 16, 3) := by decide +kernel
theorem dX6_measure_26 : decode cX6_measure 26 = .ok (.iload_n 1, 1) := by decide +kernel
theorem dX6_measure_27 : decode cX6_measure 27 = .ok (.iaload, 1) := by decide +kernel
theorem dX6_measure_28 : decode cX6_measure 28 = .ok (.iconst 1, 1) := by decide +kernel
theorem dX6_measure_29 : decode cX6_measure 29 = .ok (.if_icmp .ne 12, 3) := by decide +kernel
theorem dX6_measure_32 : decode cX6_measure 32 = .ok (.aload_n 0, 1) := by decide +kernel
theorem dX6_measure_33 : decode cX6_measure 33 = .ok (.getfield 46, 3) := by decide +kernel
theorem dX6_measure_36 : decode cX6_measure 36 = .ok (.iload_n 1, 1) := by decide +kernel
theorem dX6_measure_37 : decode cX6_measure 37 = .ok (.baload, 1) := by decide +kernel
theorem dX6_measure_38 : decode cX6_measure 38 = .ok (.ifCond .ne 7, 3) := by decide +kernel
theorem dX6_measure_41 : decode cX6_measure 41 = .ok (.iconst 2, 1) := by decide +kernel
theorem dX6_measure_42 : decode cX6_measure 42 = .ok (.goto 4, 3) := by decide +kernel
theorem dX6_measure_45 : decode cX6_measure 45 = .ok (.iconst 0, 1) := by decide +kernel
theorem dX6_measure_46 : decode cX6_measure 46 = .ok (.putfield 158, 3) := by decide +kernel
theorem dX6_measure_49 : decode cX6_measure 49 = .ok (.aload_n 0, 1) := by decide +kernel
theorem dX6_measure_50 : decode cX6_measure 50 = .ok (.getfield 158, 3) := by decide +kernel
theorem dX6_measure_53 : decode cX6_measure 53 = .ok (.ifCond .le 7, 3) := by decide +kernel
theorem dX6_measure_56 : decode cX6_measure 56 = .ok (.iconst 0, 1) := by decide +kernel
theorem dX6_measure_57 : decode cX6_measure 57 = .ok (.goto 14, 3) := by decide +kernel
theorem dX6_measure_60 : decode cX6_measure 60 = .ok (.aload_n 0, 1) := by decide +kernel
theorem dX6_measure_61 : decode cX6_measure 61 = .ok (.getfield 43, 3) := by decide +kernel
theorem dX6_measure_64 : decode cX6_measure 64 = .ok (.bipush 8, 2) := by decide +kernel
theorem dX6_measure_66 : decode cX6_measure 66 = .ok (.iload_n 1, 1) := by decide +kernel
theorem dX6_measure_67 : decode cX6_measure 67 = .ok (.imul, 1) := by decide +kernel
theorem dX6_measure_68 : decode cX6_measure 68 = .ok (.iload_n 2, 1) := by decide +kernel
theorem dX6_measure_69 : decode cX6_measure 69 = .ok (.iadd, 1) := by decide +kernel
theorem dX6_measure_70 : decode cX6_measure 70 = .ok (.iaload, 1) := by decide +kernel
theorem dX6_measure_71 : decode cX6_measure 71 = .ok (.ireturn, 1) := by decide +kernel
theorem dJ7_fill_53178_0 : decode cJ7_fill_53178 0 = .ok (.iconst 0, 1) := by decide +kernel
theorem dJ7_fill_53178_1 : decode cJ7_fill_53178 1 = .ok (.istore_n 2, 1) := by decide +kernel
theorem dJ7_fill_53178_2 : decode cJ7_fill_53178 2 = .ok (.aload_n 0, 1) := by decide +kernel
theorem dJ7_fill_53178_3 : decode cJ7_fill_53178 3 = .ok (.arraylength, 1) := by decide +kernel
theorem dJ7_fill_53178_4 : decode cJ7_fill_53178 4 = .ok (.istore_n 3, 1) := by decide +kernel
theorem dJ7_fill_53178_5 : decode cJ7_fill_53178 5 = .ok (.iload_n 2, 1) := by decide +kernel
theorem dJ7_fill_53178_6 : decode cJ7_fill_53178 6 = .ok (.iload_n 3, 1) := by decide +kernel
theorem dJ7_fill_53178_7 : decode cJ7_fill_53178 7 = .ok (.if_icmp .ge 13, 3) := by decide +kernel
theorem dJ7_fill_53178_10 : decode cJ7_fill_53178 10 = .ok (.aload_n 0, 1) := by decide +kernel
theorem dJ7_fill_53178_11 : decode cJ7_fill_53178 11 = .ok (.iload_n 2, 1) := by decide +kernel
theorem dJ7_fill_53178_12 : decode cJ7_fill_53178 12 = .ok (.iload_n 1, 1) := by decide +kernel
theorem dJ7_fill_53178_13 : decode cJ7_fill_53178 13 = .ok (.iastore, 1) := by decide +kernel
theorem dJ7_fill_53178_14 : decode cJ7_fill_53178 14 = .ok (.iinc 2 1, 3) := by decide +kernel
theorem dJ7_fill_53178_17 : decode cJ7_fill_53178 17 = .ok (.goto (-12), 3) := by decide +kernel
theorem dJ7_fill_53178_20 : decode cJ7_fill_53178 20 = .ok (.return_, 1) := by decide +kernel

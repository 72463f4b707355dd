theorem dX6_remove_84 : decode cX6_remove 84 = .ok (.invokevirtual 193, 3) := by decide +kernel
theorem dX6_remove_87 : decode cX6_remove 87 = .ok (.aload_n 0, 1) := by decide +kernel
theorem dX6_remove_88 : decode cX6_remove 88 = .ok (.aload_n 0, 1) := by decide +kernel
theorem dX6_remove_89 : decode cX6_remove 89 = .ok (.getfield 16, 3) := by decide +kernel
theorem dX6_remove_92 : decode cX6_remove 92 = .ok (.iload_n 1, 1) := by decide +kernel
theorem dX6_remove_93 : decode cX6_remove 93 = .ok (.iaload, 1) := by decide +kernel
theorem dX6_remove_94 : decode cX6_remove 94 = .ok (.iconst 1, 1) := by decide +kernel
theorem dX6_remove_95 : decode cX6_remove 95 = .ok (.if_icmp .ne 15, 3) := by decide +kernel
theorem dX6_remove_98 : decode cX6_remove 98 = .ok (.aload_n 0, 1) := by decide +kernel
theorem dX6_remove_99 : decode cX6_remove 99 = .ok (.iload_n 1, 1) := by decide +kernel
theorem dX6_remove_100 : decode cX6_remove 100 = .ok (.invokevirtual 227, 3) := by decide +kernel
theorem dX6_remove_103 : decode cX6_remove 103 = .ok (.ifCond .le 7, 3) := by decide +kernel
theorem dX6_remove_106 : decode cX6_remove 106 = .ok (.iconst 1, 1) := by decide +kernel
theorem dX6_remove_107 : decode cX6_remove 107 = .ok (.goto 4, 3) := by decide +kernel
theorem dX6_remove_110 : decode cX6_remove 110 = .ok (.iconst 0, 1) := by decide +kernel
theorem dX6_remove_111 : decode cX6_remove 111 = .ok (.bipush 7, 2) := by decide +kernel
theorem dX6_remove_113 : decode cX6_remove 113 = .ok (.invokevirtual 193, 3) := by decide +kernel
theorem dX6_remove_116 : decode cX6_remove 116 = .ok (.aload_n 0, 1) := by decide +kernel
theorem dX6_remove_117 : decode cX6_remove 117 = .ok (.getfield 183, 3) := by decide +kernel
theorem dX6_remove_120 : decode cX6_remove 120 = .ok (.ifCond .ne 17, 3) := by decide +kernel
theorem dX6_remove_123 : decode cX6_remove 123 = .ok (.aload_n 0, 1) := by decide +kernel
theorem dX6_remove_124 : decode cX6_remove 124 = .ok (.iload_n 1, 1) := by decide +kernel
theorem dX6_remove_125 : decode cX6_remove 125 = .ok (.iconst 0, 1) := by decide +kernel
theorem dX6_remove_126 : decode cX6_remove 126 = .ok (.iconst (-1), 1) := by decide +kernel
theorem dX6_remove_127 : decode cX6_remove 127 = .ok (.invokevirtual 209, 3) := by decide +kernel
theorem dX6_remove_130 : decode cX6_remove 130 = .ok (.aload_n 0, 1) := by decide +kernel
theorem dX6_remove_131 : decode cX6_remove 131 = .ok (.getfield 53, 3) := by decide +kernel
theorem dX6_remove_134 : decode cX6_remove 134 = .ok (.iload_n 1, 1) := by decide +kernel
theorem dX6_remove_135 : decode cX6_remove 135 = .ok (.iconst 0, 1) := by decide +kernel
theorem dX6_remove_136 : decode cX6_remove 136 = .ok (.bastore, 1) := by decide +kernel
theorem dX6_remove_137 : decode cX6_remove 137 = .ok (.aload_n 0, 1) := by decide +kernel
theorem dX6_remove_138 : decode cX6_remove 138 = .ok (.getfield 183, 3) := by decide +kernel
theorem dX6_remove_141 : decode cX6_remove 141 = .ok (.ireturn, 1) := by decide +kernel
set_option maxRecDepth 20000 in
theorem ggX6_lies_X6_tableOf : GoodIn wsX6_lies wsX6_tableOf := goodIn_r _ [8, 9, 14, 15, 16, 17, 18, 19, 20, 21, 22, 23, 24, 25, 26, 27, 28, 29, 30, 31, 32, 33, 34, 35, 36, 37, 38, 39, 40, 41, 42, 43, 44, 45] rfl (by decide +kernel)
set_option maxRecDepth 20000 in
theorem gX6_lies_X6_tableOf : GoodIn wsX6_lies (wsV RX6 197 RX6 yX6_tableOf wsX6_tableOf) := goodIn_app (goodIn_of _ (by decide +kernel)) ggX6_lies_X6_tableOf
set_option maxRecDepth 20000 in
theorem ggX6_lies_X6_entryOf : GoodIn wsX6_lies wsX6_entryOf := goodIn_r _ [13, 4, 5, 6, 7, 8, 9, 14, 15, 16, 17, 18, 19, 20, 21, 22, 23, 24, 25, 26, 27, 28, 29, 30, 31, 32, 33, 34, 35, 36, 37, 38, 39, 40, 41, 42, 43, 44, 45] rfl (by decide +kernel)
set_option maxRecDepth 20000 in
theorem gX6_lies_X6_entryOf : GoodIn wsX6_lies (wsV RX6 200 RX6 yX6_entryOf wsX6_entryOf) := goodIn_app (goodIn_of _ (by decide +kernel)) ggX6_lies_X6_entryOf
theorem dX6_lies_0 : decode cX6_lies 0 = .ok (.iload_n 1, 1) := by decide +kernel
theorem dX6_lies_1 : decode cX6_lies 1 = .ok (.ifCond .lt 25, 3) := by decide +kernel
theorem dX6_lies_4 : decode cX6_lies 4 = .ok (.iload_n 1, 1) := by decide +kernel
theorem dX6_lies_5 : decode cX6_lies 5 = .ok (.sipush 511, 3) := by decide +kernel
theorem dX6_lies_8 : decode cX6_lies 8 = .ok (.if_icmp .gt 18, 3) := by decide +kernel
theorem dX6_lies_11 : decode cX6_lies 11 = .ok (.aload_n 0, 1) := by decide +kernel
theorem dX6_lies_12 : decode cX6_lies 12 = .ok (.aload_n 0, 1) := by decide +kernel
theorem dX6_lies_13 : decode cX6_lies 13 = .ok (.getfield 231, 3) := by decide +kernel
theorem dX6_lies_16 : decode cX6_lies 16 = .ok (.iload_n 1, 1) := by decide +kernel
theorem dX6_lies_17 : decode cX6_lies 17 = .ok (.bipush 16, 2) := by decide +kernel
theorem dX6_lies_19 : decode cX6_lies 19 = .ok (.idiv, 1) := by decide +kernel
theorem dX6_lies_20 : decode cX6_lies 20 = .ok (.invokevirtual 197, 3) := by decide +kernel
theorem dX6_lies_23 : decode cX6_lies 23 = .ok (.ifCond .ge 5, 3) := by decide +kernel
theorem dX6_lies_26 : decode cX6_lies 26 = .ok (.iconst (-1), 1) := by decide +kernel
theorem dX6_lies_27 : decode cX6_lies 27 = .ok (.ireturn, 1) := by decide +kernel
theorem dX6_lies_28 : decode cX6_lies 28 = .ok (.aload_n 0, 1) := by decide +kernel
theorem dX6_lies_29 : decode cX6_lies 29 = .ok (.aload_n 0, 1) := by decide +kernel
theorem dX6_lies_30 : decode cX6_lies 30 = .ok (.getfield 231, 3) := by decide +kernel
theorem dX6_lies_33 : decode cX6_lies 33 = .ok (.iload_n 1, 1) := by decide +kernel
theorem dX6_lies_34 : decode cX6_lies 34 = .ok (.bipush 16, 2) := by decide +kernel
theorem dX6_lies_36 : decode cX6_lies 36 = .ok (.idiv, 1) := by decide +kernel
theorem dX6_lies_37 : decode cX6_lies 37 = .ok (.invokevirtual 200, 3) := by decide +kernel
theorem dX6_lies_40 : decode cX6_lies 40 = .ok (.istore_n 3, 1) := by decide +kernel
theorem dX6_lies_41 : decode cX6_lies 41 = .ok (.aload_n 0, 1) := by decide +kernel
theorem dX6_lies_42 : decode cX6_lies 42 = .ok (.getfield 28, 3) := by decide +kernel
theorem dX6_lies_45 : decode cX6_lies 45 = .ok (.iload_n 3, 1) := by decide +kernel
theorem dX6_lies_46 : decode cX6_lies 46 = .ok (.iaload, 1) := by decide +kernel
theorem dX6_lies_47 : decode cX6_lies 47 = .ok (.ifCond .eq 15, 3) := by decide +kernel
theorem dX6_lies_50 : decode cX6_lies 50 = .ok (.aload_n 0, 1) := by decide +kernel
theorem dX6_lies_51 : decode cX6_lies 51 = .ok (.getfield 31, 3) := by decide +kernel
theorem dX6_lies_54 : decode cX6_lies 54 = .ok (.iload_n 3, 1) := by decide +kernel
theorem dX6_lies_55 : decode cX6_lies 55 = .ok (.iaload, 1) := by decide +kernel
theorem dX6_lies_56 : decode cX6_lies 56 = .ok (.iload_n 2, 1) := by decide +kernel
theorem dX6_lies_57 : decode cX6_lies 57 = .ok (.iand, 1) := by decide +kernel
theorem dX6_lies_58 : decode cX6_lies 58 = .ok (.iload_n 2, 1) := by decide +kernel
theorem dX6_lies_59 : decode cX6_lies 59 = .ok (.if_icmp .eq 5, 3) := by decide +kernel
theorem dX6_lies_62 : decode cX6_lies 62 = .ok (.iconst (-1), 1) := by decide +kernel
theorem dX6_lies_63 : decode cX6_lies 63 = .ok (.ireturn, 1) := by decide +kernel
theorem dX6_lies_64 : decode cX6_lies 64 = .ok (.aload_n 0, 1) := by decide +kernel
theorem dX6_lies_65 : decode cX6_lies 65 = .ok (.getfield 28, 3) := by decide +kernel
theorem dX6_lies_68 : decode cX6_lies 68 = .ok (.iload_n 3, 1) := by decide +kernel
theorem dX6_lies_69 : decode cX6_lies 69 = .ok (.iaload, 1) := by decide +kernel
theorem dX6_lies_70 : decode cX6_lies 70 = .ok (.ifCond .le 22, 3) := by decide +kernel
theorem dX6_lies_73 : decode cX6_lies 73 = .ok (.bipush 16, 2) := by decide +kernel
theorem dX6_lies_75 : decode cX6_lies 75 = .ok (.aload_n 0, 1) := by decide +kernel
theorem dX6_lies_76 : decode cX6_lies 76 = .ok (.getfield 28, 3) := by decide +kernel
theorem dX6_lies_79 : decode cX6_lies 79 = .ok (.iload_n 3, 1) := by decide +kernel
theorem dX6_lies_80 : decode cX6_lies 80 = .ok (.iaload, 1) := by decide +kernel
theorem dX6_lies_81 : decode cX6_lies 81 = .ok (.iconst 1, 1) := by decide +kernel
theorem dX6_lies_82 : decode cX6_lies 82 = .ok (.isub, 1) := by decide +kernel
theorem dX6_lies_83 : decode cX6_lies 83 = .ok (.imul, 1) := by decide +kernel
theorem dX6_lies_84 : decode cX6_lies 84 = .ok (.iload_n 1, 1) := by decide +kernel
theorem dX6_lies_85 : decode cX6_lies 85 = .ok (.bipush 16, 2) := by decide +kernel
theorem dX6_lies_87 : decode cX6_lies 87 = .ok (.irem, 1) := by decide +kernel
theorem dX6_lies_88 : decode cX6_lies 88 = .ok (.iadd, 1) := by decide +kernel
theorem dX6_lies_89 : decode cX6_lies 89 = .ok (.goto 24, 3) := by decide +kernel
theorem dX6_lies_92 : decode cX6_lies 92 = .ok (.sipush 320, 3) := by decide +kernel
theorem dX6_lies_95 : decode cX6_lies 95 = .ok (.bipush 16, 2) := by decide +kernel
theorem dX6_lies_97 : decode cX6_lies 97 = .ok (.aload_n 0, 1) := by decide +kernel
theorem dX6_lies_98 : decode cX6_lies 98 = .ok (.getfield 28, 3) := by decide +kernel
theorem dX6_lies_101 : decode cX6_lies 101 = .ok (.iload_n 3, 1) := by decide +kernel
theorem dX6_lies_102 : decode cX6_lies 102 = .ok (.iaload, 1) := by decide +kernel
theorem dX6_lies_103 : decode cX6_lies 103 = .ok (.ineg, 1) := by decide +kernel
theorem dX6_lies_104 : decode cX6_lies 104 = .ok (.iconst 1, 1) := by decide +kernel
theorem dX6_lies_105 : decode cX6_lies 105 = .ok (.isub, 1) := by decide +kernel
theorem dX6_lies_106 : decode cX6_lies 106 = .ok (.imul, 1) := by decide +kernel
theorem dX6_lies_107 : decode cX6_lies 107 = .ok (.iadd, 1) := by decide +kernel
theorem dX6_lies_108 : decode cX6_lies 108 = .ok (.iload_n 1, 1) := by decide +kernel
theorem dX6_lies_109 : decode cX6_lies 109 = .ok (.bipush 16, 2) := by decide +kernel
theorem dX6_lies_111 : decode cX6_lies 111 = .ok (.irem, 1) := by decide +kernel
theorem dX6_lies_112 : decode cX6_lies 112 = .ok (.iadd, 1) := by decide +kernel
theorem dX6_lies_113 : decode cX6_lies 113 = .ok (.ireturn, 1) := by decide +kernel
set_option maxRecDepth 20000 in
theorem ggX6_load_X6_lies : GoodIn wsX6_load wsX6_lies := goodIn_r _ [8, 9, 10, 11, 12, 13, 14, 7, 15, 16, 17, 18, 19, 20, 21, 22, 23, 24, 25, 26, 27, 28, 29, 30, 31, 32, 33, 34, 35, 36, 37, 38, 39, 40, 41, 42, 43, 44, 45, 46, 47, 48, 49, 50, 51, 52] rfl (by decide +kernel)
set_option maxRecDepth 20000 in
theorem gX6_load_X6_lies : GoodIn wsX6_load (wsV RX6 234 RX6 yX6_lies wsX6_lies) := goodIn_app (goodIn_of _ (by decide +kernel)) ggX6_load_X6_lies
theorem dX6_load_0 : decode cX6_load 0 = .ok (.aload_n 0, 1) := by decide +kernel
theorem dX6_load_1 : decode cX6_load 1 = .ok (.iload_n 1, 1) := by decide +kernel
theorem dX6_load_2 : decode cX6_load 2 = .ok (.iconst 1, 1) := by decide +kernel
theorem dX6_load_3 : decode cX6_load 3 = .ok (.invokevirtual 234, 3) := by decide +kernel
theorem dX6_load_6 : decode cX6_load 6 = .ok (.istore_n 2, 1) := by decide +kernel
theorem dX6_load_7 : decode cX6_load 7 = .ok (.iload_n 2, 1) := by decide +kernel
theorem dX6_load_8 : decode cX6_load 8 = .ok (.ifCond .ge 24, 3) := by decide +kernel
theorem dX6_load_11 : decode cX6_load 11 = .ok (.aload_n 0, 1) := by decide +kernel
theorem dX6_load_12 : decode cX6_load 12 = .ok (.aload_n 0, 1) := by decide +kernel
theorem dX6_load_13 : decode cX6_load 13 = .ok (.getfield 237, 3) := by decide +kernel
theorem dX6_load_16 : decode cX6_load 16 = .ok (.ifCond .ne 7, 3) := by decide +kernel
theorem dX6_load_19 : decode cX6_load 19 = .ok (.iconst 2, 1) := by decide +kernel
theorem dX6_load_20 : decode cX6_load 20 = .ok (.goto 7, 3) := by decide +kernel
theorem dX6_load_23 : decode cX6_load 23 = .ok (.aload_n 0, 1) := by decide +kernel
theorem dX6_load_24 : decode cX6_load 24 = .ok (.getfield 237, 3) := by decide +kernel
theorem dX6_load_27 : decode cX6_load 27 = .ok (.putfield 237, 3) := by decide +kernel
theorem dX6_load_30 : decode cX6_load 30 = .ok (.iconst 0, 1) := by decide +kernel
theorem dX6_load_31 : decode cX6_load 31 = .ok (.ireturn, 1) := by decide +kernel
theorem dX6_load_32 : decode cX6_load 32 = .ok (.iload_n 2, 1) := by decide +kernel
theorem dX6_load_33 : decode cX6_load 33 = .ok (.sipush 320, 3) := by decide +kernel
theorem dX6_load_36 : decode cX6_load 36 = .ok (.if_icmp .ge 12, 3) := by decide +kernel
theorem dX6_load_39 : decode cX6_load 39 = .ok (.aload_n 0, 1) := by decide +kernel
theorem dX6_load_40 : decode cX6_load 40 = .ok (.getfield 25, 3) := by decide +kernel
theorem dX6_load_43 : decode cX6_load 43 = .ok (.iload_n 2, 1) := by decide +kernel
theorem dX6_load_44 : decode cX6_load 44 = .ok (.iaload, 1) := by decide +kernel
theorem dX6_load_45 : decode cX6_load 45 = .ok (.goto 13, 3) := by decide +kernel
theorem dX6_load_48 : decode cX6_load 48 = .ok (.aload_n 0, 1) := by decide +kernel
theorem dX6_load_49 : decode cX6_load 49 = .ok (.getfield 13, 3) := by decide +kernel
theorem dX6_load_52 : decode cX6_load 52 = .ok (.iload_n 2, 1) := by decide +kernel
theorem dX6_load_53 : decode cX6_load 53 = .ok (.sipush 320, 3) := by decide +kernel
theorem dX6_load_56 : decode cX6_load 56 = .ok (.isub, 1) := by decide +kernel
theorem dX6_load_57 : decode cX6_load 57 = .ok (.iaload, 1) := by decide +kernel
theorem dX6_load_58 : decode cX6_load 58 = .ok (.ireturn, 1) := by decide +kernel
set_option maxRecDepth 20000 in
theorem ggX6_store_X6_lies : GoodIn wsX6_store wsX6_lies := goodIn_r _ [8, 9, 10, 11, 12, 13, 14, 7, 15, 16, 17, 18, 19, 20, 21, 22, 23, 24, 25, 26, 27, 28, 29, 30, 31, 32, 33, 34, 35, 36, 37, 38, 39, 40, 41, 42, 43, 44, 45, 46, 47, 48, 49, 50, 51, 52] rfl (by decide +kernel)
set_option maxRecDepth 20000 in
theorem gX6_store_X6_lies : GoodIn wsX6_store (wsV RX6 234 RX6 yX6_lies wsX6_lies) := goodIn_app (goodIn_of _ (by decide +kernel)) ggX6_store_X6_lies
theorem dX6_store_0 : decode cX6_store 0 = .ok (.aload_n 0, 1) := by decide +kernel
theorem dX6_store_1 : decode cX6_store 1 = .ok (.iload_n 1, 1) := by decide +kernel
theorem dX6_store_2 : decode cX6_store 2 = .ok (.iconst 2, 1) := by decide +kernel
theorem dX6_store_3 : decode cX6_store 3 = .ok (.invokevirtual 234, 3) := by decide +kernel
theorem dX6_store_6 : decode cX6_store 6 = .ok (.istore_n 3, 1) := by decide +kernel
theorem dX6_store_7 : decode cX6_store 7 = .ok (.iload_n 3, 1) := by decide +kernel
theorem dX6_store_8 : decode cX6_store 8 = .ok (.ifCond .ge 25, 3) := by decide +kernel
theorem dX6_store_11 : decode cX6_store 11 = .ok (.aload_n 0, 1) := by decide +kernel
theorem dX6_store_12 : decode cX6_store 12 = .ok (.aload_n 0, 1) := by decide +kernel
theorem dX6_store_13 : decode cX6_store 13 = .ok (.getfield 237, 3) := by decide +kernel
theorem dX6_store_16 : decode cX6_store 16 = .ok (.ifCond .ne 7, 3) := by decide +kernel
theorem dX6_store_19 : decode cX6_store 19 = .ok (.iconst 3, 1) := by decide +kernel
theorem dX6_store_20 : decode cX6_store 20 = .ok (.goto 7, 3) := by decide +kernel
theorem dX6_store_23 : decode cX6_store 23 = .ok (.aload_n 0, 1) := by decide +kernel
theorem dX6_store_24 : decode cX6_store 24 = .ok (.getfield 237, 3) := by decide +kernel
theorem dX6_store_27 : decode cX6_store 27 = .ok (.putfield 237, 3) := by decide +kernel
theorem dX6_store_30 : decode cX6_store 30 = .ok (.goto 31, 3) := by decide +kernel
theorem dX6_store_33 : decode cX6_store 33 = .ok (.iload_n 3, 1) := by decide +kernel
theorem dX6_store_34 : decode cX6_store 34 = .ok (.sipush 320, 3) := by decide +kernel
theorem dX6_store_37 : decode cX6_store 37 = .ok (.if_icmp .ge 13, 3) := by decide +kernel
theorem dX6_store_40 : decode cX6_store 40 = .ok (.aload_n 0, 1) := by decide +kernel
theorem dX6_store_41 : decode cX6_store 41 = .ok (.getfield 25, 3) := by decide +kernel
theorem dX6_store_44 : decode cX6_store 44 = .ok (.iload_n 3, 1) := by decide +kernel
theorem dX6_store_45 : decode cX6_store 45 = .ok (.iload_n 2, 1) := by decide +kernel
theorem dX6_store_46 : decode cX6_store 46 = .ok (.iastore, 1) := by decide +kernel
theorem dX6_store_47 : decode cX6_store 47 = .ok (.goto 14, 3) := by decide +kernel
theorem dX6_store_50 : decode cX6_store 50 = .ok (.aload_n 0, 1) := by decide +kernel
theorem dX6_store_51 : decode cX6_store 51 = .ok (.getfield 13, 3) := by decide +kernel
theorem dX6_store_54 : decode cX6_store 54 = .ok (.iload_n 3, 1) := by decide +kernel
theorem dX6_store_55 : decode cX6_store 55 = .ok (.sipush 320, 3) := by decide +kernel
theorem dX6_store_58 : decode cX6_store 58 = .ok (.isub, 1) := by decide +kernel
theorem dX6_store_59 : decode cX6_store 59 = .ok (.iload_n 2, 1) := by decide +kernel
theorem dX6_store_60 : decode cX6_store 60 = .ok (.iastore, 1) := by decide +kernel
theorem dX6_store_61 : decode cX6_store 61 = .ok (.return_, 1) := by decide +kernel
set_option maxRecDepth 20000 in
theorem ggX6_vouch_X6_load : GoodIn wsX6_vouch wsX6_load := goodIn_r _ [10, 2, 11, 12, 13, 14, 15, 9, 16, 4, 17, 18, 19, 20, 21, 22, 23, 24, 25, 26, 27, 53, 54, 55, 56, 57, 58, 59, 60, 61, 62, 63, 64, 65, 66, 67, 68, 69, 70, 71, 72, 73, 74, 75, 76, 77, 78, 79, 80, 81, 82, 83, 84] rfl (by decide +kernel)
set_option maxRecDepth 20000 in
theorem gX6_vouch_X6_load : GoodIn wsX6_vouch (wsV RX6 240 RX6 yX6_load wsX6_load) := goodIn_app (goodIn_of _ (by decide +kernel)) ggX6_vouch_X6_load
set_option maxRecDepth 20000 in
theorem ggX6_vouch_X6_lies : GoodIn wsX6_vouch wsX6_lies := goodIn_r _ [16, 4, 17, 18, 19, 20, 21, 9, 22, 23, 24, 25, 26, 27, 53, 54, 55, 56, 57, 58, 59, 60, 61, 62, 63, 64, 65, 66, 67, 68, 69, 70, 71, 72, 73, 74, 75, 76, 77, 78, 79, 80, 81, 82, 83, 84] rfl (by decide +kernel)
set_option maxRecDepth 20000 in
theorem gX6_vouch_X6_lies : GoodIn wsX6_vouch (wsV RX6 234 RX6 yX6_lies wsX6_lies) := goodIn_app (goodIn_of _ (by decide +kernel)) ggX6_vouch_X6_lies
set_option maxRecDepth 20000 in
theorem ggX6_vouch_X6_voucher : GoodIn wsX6_vouch wsX6_voucher := goodIn_r _ [31, 1, 32, 33, 34, 35, 9, 36, 5, 37, 38, 39, 40, 41, 42, 43, 44, 45, 46, 47, 48, 53, 54, 55, 56, 57, 58, 59, 60, 61, 62, 63, 64, 65, 66, 67, 68, 69, 70, 71, 72, 73, 74, 75, 76, 77, 78, 79, 80, 81, 82, 83, 84] rfl (by decide +kernel)
set_option maxRecDepth 20000 in
theorem gX6_vouch_X6_voucher : GoodIn wsX6_vouch (wsV RX6 243 RX6 yX6_voucher wsX6_voucher) := goodIn_app (goodIn_of _ (by decide +kernel)) ggX6_vouch_X6_voucher
set_option maxRecDepth 20000 in
theorem ggX6_vouch_X6_store : GoodIn wsX6_vouch wsX6_store := goodIn_r _ [52, 2, 11, 12, 13, 14, 15, 9, 16, 4, 17, 18, 19, 20, 21, 22, 23, 24, 25, 26, 27, 53, 54, 55, 56, 57, 58, 59, 60, 61, 62, 63, 64, 65, 66, 67, 68, 69, 70, 71, 72, 73, 74, 75, 76, 77, 78, 79, 80, 81, 82, 83, 84] rfl (by decide +kernel)
set_option maxRecDepth 20000 in
theorem gX6_vouch_X6_store : GoodIn wsX6_vouch (wsV RX6 247 RX6 yX6_store wsX6_store) := goodIn_app (goodIn_of _ (by decide +kernel)) ggX6_vouch_X6_store
theorem dX6_vouch_0 : decode cX6_vouch 0 = .ok (.iconst 0, 1) := by decide +kernel
theorem dX6_vouch_1 : decode cX6_vouch 1 = .ok (.istore_n 3, 1) := by decide +kernel
theorem dX6_vouch_2 : decode cX6_vouch 2 = .ok (.iload_n 3, 1) := by decide +kernel
theorem dX6_vouch_3 : decode cX6_vouch 3 = .ok (.bipush 8, 2) := by decide +kernel
theorem dX6_vouch_5 : decode cX6_vouch 5 = .ok (.if_icmp .ge 25, 3) := by decide +kernel
theorem dX6_vouch_8 : decode cX6_vouch 8 = .ok (.aload_n 0, 1) := by decide +kernel
theorem dX6_vouch_9 : decode cX6_vouch 9 = .ok (.getfield 140, 3) := by decide +kernel
theorem dX6_vouch_12 : decode cX6_vouch 12 = .ok (.bipush 16, 2) := by decide +kernel
theorem dX6_vouch_14 : decode cX6_vouch 14 = .ok (.iload_n 3, 1) := by decide +kernel
theorem dX6_vouch_15 : decode cX6_vouch 15 = .ok (.iadd, 1) := by decide +kernel
theorem dX6_vouch_16 : decode cX6_vouch 16 = .ok (.aload_n 0, 1) := by decide +kernel
theorem dX6_vouch_17 : decode cX6_vouch 17 = .ok (.iload_n 1, 1) := by decide +kernel
theorem dX6_vouch_18 : decode cX6_vouch 18 = .ok (.iload_n 3, 1) := by decide +kernel
theorem dX6_vouch_19 : decode cX6_vouch 19 = .ok (.iadd, 1) := by decide +kernel
theorem dX6_vouch_20 : decode cX6_vouch 20 = .ok (.invokevirtual 240, 3) := by decide +kernel
theorem dX6_vouch_23 : decode cX6_vouch 23 = .ok (.iastore, 1) := by decide +kernel
theorem dX6_vouch_24 : decode cX6_vouch 24 = .ok (.iinc 3 1, 3) := by decide +kernel
theorem dX6_vouch_27 : decode cX6_vouch 27 = .ok (.goto (-25), 3) := by decide +kernel
theorem dX6_vouch_30 : decode cX6_vouch 30 = .ok (.iconst 0, 1) := by decide +kernel
theorem dX6_vouch_31 : decode cX6_vouch 31 = .ok (.istore_n 3, 1) := by decide +kernel
theorem dX6_vouch_32 : decode cX6_vouch 32 = .ok (.iload_n 3, 1) := by decide +kernel
theorem dX6_vouch_33 : decode cX6_vouch 33 = .ok (.bipush 8, 2) := by decide +kernel
theorem dX6_vouch_35 : decode cX6_vouch 35 = .ok (.if_icmp .ge 32, 3) := by decide +kernel
theorem dX6_vouch_38 : decode cX6_vouch 38 = .ok (.aload_n 0, 1) := by decide +kernel
theorem dX6_vouch_39 : decode cX6_vouch 39 = .ok (.getfield 237, 3) := by decide +kernel
theorem dX6_vouch_42 : decode cX6_vouch 42 = .ok (.ifCond .ne 19, 3) := by decide +kernel
theorem dX6_vouch_45 : decode cX6_vouch 45 = .ok (.aload_n 0, 1) := by decide +kernel
theorem dX6_vouch_46 : decode cX6_vouch 46 = .ok (.iload_n 2, 1) := by decide +kernel
theorem dX6_vouch_47 : decode cX6_vouch 47 = .ok (.iload_n 3, 1) := by decide +kernel
theorem dX6_vouch_48 : decode cX6_vouch 48 = .ok (.iadd, 1) := by decide +kernel
theorem dX6_vouch_49 : decode cX6_vouch 49 = .ok (.iconst 2, 1) := by decide +kernel
theorem dX6_vouch_50 : decode cX6_vouch 50 = .ok (.invokevirtual 234, 3) := by decide +kernel
theorem dX6_vouch_53 : decode cX6_vouch 53 = .ok (.ifCond .ge 8, 3) := by decide +kernel
theorem dX6_vouch_56 : decode cX6_vouch 56 = .ok (.aload_n 0, 1) := by decide +kernel
theorem dX6_vouch_57 : decode cX6_vouch 57 = .ok (.iconst 3, 1) := by decide +kernel
theorem dX6_vouch_58 : decode cX6_vouch 58 = .ok (.putfield 237, 3) := by decide +kernel
theorem dX6_vouch_61 : decode cX6_vouch 61 = .ok (.iinc 3 1, 3) := by decide +kernel
theorem dX6_vouch_64 : decode cX6_vouch 64 = .ok (.goto (-32), 3) := by decide +kernel
theorem dX6_vouch_67 : decode cX6_vouch 67 = .ok (.aload_n 0, 1) := by decide +kernel
theorem dX6_vouch_68 : decode cX6_vouch 68 = .ok (.aload_n 0, 1) := by decide +kernel
theorem dX6_vouch_69 : decode cX6_vouch 69 = .ok (.getfield 43, 3) := by decide +kernel
theorem dX6_vouch_72 : decode cX6_vouch 72 = .ok (.bipush 8, 2) := by decide +kernel
theorem dX6_vouch_74 : decode cX6_vouch 74 = .ok (.aload_n 0, 1) := by decide +kernel
theorem dX6_vouch_75 : decode cX6_vouch 75 = .ok (.getfield 231, 3) := by decide +kernel
theorem dX6_vouch_78 : decode cX6_vouch 78 = .ok (.imul, 1) := by decide +kernel
theorem dX6_vouch_79 : decode cX6_vouch 79 = .ok (.invokevirtual 243, 3) := by decide +kernel
theorem dX6_vouch_82 : decode cX6_vouch 82 = .ok (.iconst 0, 1) := by decide +kernel
theorem dX6_vouch_83 : decode cX6_vouch 83 = .ok (.istore_n 3, 1) := by decide +kernel
theorem dX6_vouch_84 : decode cX6_vouch 84 = .ok (.iload_n 3, 1) := by decide +kernel
theorem dX6_vouch_85 : decode cX6_vouch 85 = .ok (.bipush 8, 2) := by decide +kernel
theorem dX6_vouch_87 : decode cX6_vouch 87 = .ok (.if_icmp .ge 29, 3) := by decide +kernel
theorem dX6_vouch_90 : decode cX6_vouch 90 = .ok (.aload_n 0, 1) := by decide +kernel
theorem dX6_vouch_91 : decode cX6_vouch 91 = .ok (.getfield 237, 3) := by decide +kernel
theorem dX6_vouch_94 : decode cX6_vouch 94 = .ok (.ifCond .ne 22, 3) := by decide +kernel
theorem dX6_vouch_97 : decode cX6_vouch 97 = .ok (.aload_n 0, 1) := by decide +kernel
theorem dX6_vouch_98 : decode cX6_vouch 98 = .ok (.iload_n 2, 1) := by decide +kernel
theorem dX6_vouch_99 : decode cX6_vouch 99 = .ok (.iload_n 3, 1) := by decide +kernel
theorem dX6_vouch_100 : decode cX6_vouch 100 = .ok (.iadd, 1) := by decide +kernel
theorem dX6_vouch_101 : decode cX6_vouch 101 = .ok (.aload_n 0, 1) := by decide +kernel
theorem dX6_vouch_102 : decode cX6_vouch 102 = .ok (.getfield 146, 3) := by decide +kernel
theorem dX6_vouch_105 : decode cX6_vouch 105 = .ok (.iload_n 3, 1) := by decide +kernel
theorem dX6_vouch_106 : decode cX6_vouch 106 = .ok (.iaload, 1) := by decide +kernel
theorem dX6_vouch_107 : decode cX6_vouch 107 = .ok (.invokevirtual 247, 3) := by decide +kernel
theorem dX6_vouch_110 : decode cX6_vouch 110 = .ok (.iinc 3 1, 3) := by decide +kernel
theorem dX6_vouch_113 : decode cX6_vouch 113 = .ok (.goto (-29), 3) := by decide +kernel
theorem dX6_vouch_116 : decode cX6_vouch 116 = .ok (.return_, 1) := by decide +kernel
set_option maxRecDepth 20000 in
theorem ggX6_verified_X6_load : GoodIn wsX6_verified wsX6_load := goodIn_r _ [8, 9, 10, 11, 12, 13, 14, 7, 15, 16, 17, 18, 19, 20, 21, 22, 23, 24, 25, 26, 27, 49, 50, 51, 52, 53, 54, 55, 56, 57, 58, 59, 60, 61, 62, 63, 64, 65, 66, 67, 68, 69, 70, 71, 72, 73, 74, 75, 76, 77, 78, 79, 80] rfl (by decide +kernel)
set_option maxRecDepth 20000 in
theorem gX6_verified_X6_load : GoodIn wsX6_verified (wsV RX6 240 RX6 yX6_load wsX6_load) := goodIn_app (goodIn_of _ (by decide +kernel)) ggX6_verified_X6_load
set_option maxRecDepth 20000 in
theorem ggX6_verified_X6_voucher : GoodIn wsX6_verified wsX6_voucher := goodIn_r _ [31, 2, 32, 33, 34, 35, 7, 36, 3, 37, 38, 39, 40, 41, 42, 43, 44, 45, 46, 47, 48, 49, 50, 51, 52, 53, 54, 55, 56, 57, 58, 59, 60, 61, 62, 63, 64, 65, 66, 67, 68, 69, 70, 71, 72, 73, 74, 75, 76, 77, 78, 79, 80] rfl (by decide +kernel)
set_option maxRecDepth 20000 in
theorem gX6_verified_X6_voucher : GoodIn wsX6_verified (wsV RX6 243 RX6 yX6_voucher wsX6_voucher) := goodIn_app (goodIn_of _ (by decide +kernel)) ggX6_verified_X6_voucher
theorem dX6_verified_0 : decode cX6_verified 0 = .ok (.iconst 0, 1) := by decide +kernel
theorem dX6_verified_1 : decode cX6_verified 1 = .ok (.istore_n 2, 1) := by decide +kernel
theorem dX6_verified_2 : decode cX6_verified 2 = .ok (.iload_n 2, 1) := by decide +kernel
theorem dX6_verified_3 : decode cX6_verified 3 = .ok (.bipush 24, 2) := by decide +kernel
theorem dX6_verified_5 : decode cX6_verified 5 = .ok (.if_icmp .ge 22, 3) := by decide +kernel
theorem dX6_verified_8 : decode cX6_verified 8 = .ok (.aload_n 0, 1) := by decide +kernel
theorem dX6_verified_9 : decode cX6_verified 9 = .ok (.getfield 152, 3) := by decide +kernel
theorem dX6_verified_12 : decode cX6_verified 12 = .ok (.iload_n 2, 1) := by decide +kernel
theorem dX6_verified_13 : decode cX6_verified 13 = .ok (.aload_n 0, 1) := by decide +kernel
theorem dX6_verified_14 : decode cX6_verified 14 = .ok (.iload_n 1, 1) := by decide +kernel
theorem dX6_verified_15 : decode cX6_verified 15 = .ok (.iload_n 2, 1) := by decide +kernel
theorem dX6_verified_16 : decode cX6_verified 16 = .ok (.iadd, 1) := by decide +kernel
theorem dX6_verified_17 : decode cX6_verified 17 = .ok (.invokevirtual 240, 3) := by decide +kernel
theorem dX6_verified_20 : decode cX6_verified 20 = .ok (.iastore, 1) := by decide +kernel
theorem dX6_verified_21 : decode cX6_verified 21 = .ok (.iinc 2 1, 3) := by decide +kernel
theorem dX6_verified_24 : decode cX6_verified 24 = .ok (.goto (-22), 3) := by decide +kernel
theorem dX6_verified_27 : decode cX6_verified 27 = .ok (.iconst 0, 1) := by decide +kernel
theorem dX6_verified_28 : decode cX6_verified 28 = .ok (.istore_n 2, 1) := by decide +kernel
theorem dX6_verified_29 : decode cX6_verified 29 = .ok (.iload_n 2, 1) := by decide +kernel
theorem dX6_verified_30 : decode cX6_verified 30 = .ok (.bipush 8, 2) := by decide +kernel
theorem dX6_verified_32 : decode cX6_verified 32 = .ok (.if_icmp .ge 27, 3) := by decide +kernel
theorem dX6_verified_35 : decode cX6_verified 35 = .ok (.aload_n 0, 1) := by decide +kernel
theorem dX6_verified_36 : decode cX6_verified 36 = .ok (.getfield 140, 3) := by decide +kernel
theorem dX6_verified_39 : decode cX6_verified 39 = .ok (.bipush 16, 2) := by decide +kernel
theorem dX6_verified_41 : decode cX6_verified 41 = .ok (.iload_n 2, 1) := by decide +kernel
theorem dX6_verified_42 : decode cX6_verified 42 = .ok (.iadd, 1) := by decide +kernel
theorem dX6_verified_43 : decode cX6_verified 43 = .ok (.aload_n 0, 1) := by decide +kernel
theorem dX6_verified_44 : decode cX6_verified 44 = .ok (.getfield 152, 3) := by decide +kernel
theorem dX6_verified_47 : decode cX6_verified 47 = .ok (.bipush 8, 2) := by decide +kernel
theorem dX6_verified_49 : decode cX6_verified 49 = .ok (.iload_n 2, 1) := by decide +kernel
theorem dX6_verified_50 : decode cX6_verified 50 = .ok (.iadd, 1) := by decide +kernel
theorem dX6_verified_51 : decode cX6_verified 51 = .ok (.iaload, 1) := by decide +kernel
theorem dX6_verified_52 : decode cX6_verified 52 = .ok (.iastore, 1) := by decide +kernel
theorem dX6_verified_53 : decode cX6_verified 53 = .ok (.iinc 2 1, 3) := by decide +kernel
theorem dX6_verified_56 : decode cX6_verified 56 = .ok (.goto (-27), 3) := by decide +kernel
theorem dX6_verified_59 : decode cX6_verified 59 = .ok (.aload_n 0, 1) := by decide +kernel
theorem dX6_verified_60 : decode cX6_verified 60 = .ok (.aload_n 0, 1) := by decide +kernel
theorem dX6_verified_61 : decode cX6_verified 61 = .ok (.getfield 152, 3) := by decide +kernel
theorem dX6_verified_64 : decode cX6_verified 64 = .ok (.iconst 0, 1) := by decide +kernel
theorem dX6_verified_65 : decode cX6_verified 65 = .ok (.invokevirtual 243, 3) := by decide +kernel
theorem dX6_verified_68 : decode cX6_verified 68 = .ok (.iconst 1, 1) := by decide +kernel
theorem dX6_verified_69 : decode cX6_verified 69 = .ok (.istore_n 2, 1) := by decide +kernel
theorem dX6_verified_70 : decode cX6_verified 70 = .ok (.iconst 0, 1) := by decide +kernel
theorem dX6_verified_71 : decode cX6_verified 71 = .ok (.istore_n 3, 1) := by decide +kernel
theorem dX6_verified_72 : decode cX6_verified 72 = .ok (.iload_n 3, 1) := by decide +kernel
theorem dX6_verified_73 : decode cX6_verified 73 = .ok (.bipush 8, 2) := by decide +kernel
theorem dX6_verified_75 : decode cX6_verified 75 = .ok (.if_icmp .ge 37, 3) := by decide +kernel
theorem dX6_verified_78 : decode cX6_verified 78 = .ok (.iload_n 2, 1) := by decide +kernel
theorem dX6_verified_79 : decode cX6_verified 79 = .ok (.ifCond .eq 25, 3) := by decide +kernel
theorem dX6_verified_82 : decode cX6_verified 82 = .ok (.aload_n 0, 1) := by decide +kernel
theorem dX6_verified_83 : decode cX6_verified 83 = .ok (.getfield 152, 3) := by decide +kernel
theorem dX6_verified_86 : decode cX6_verified 86 = .ok (.bipush 16, 2) := by decide +kernel
theorem dX6_verified_88 : decode cX6_verified 88 = .ok (.iload_n 3, 1) := by decide +kernel
theorem dX6_verified_89 : decode cX6_verified 89 = .ok (.iadd, 1) := by decide +kernel
theorem dX6_verified_90 : decode cX6_verified 90 = .ok (.iaload, 1) := by decide +kernel
theorem dX6_verified_91 : decode cX6_verified 91 = .ok (.aload_n 0, 1) := by decide +kernel
theorem dX6_verified_92 : decode cX6_verified 92 = .ok (.getfield 146, 3) := by decide +kernel
theorem dX6_verified_95 : decode cX6_verified 95 = .ok (.iload_n 3, 1) := by decide +kernel
theorem dX6_verified_96 : decode cX6_verified 96 = .ok (.iaload, 1) := by decide +kernel
theorem dX6_verified_97 : decode cX6_verified 97 = .ok (.if_icmp .ne 7, 3) := by decide +kernel
theorem dX6_verified_100 : decode cX6_verified 100 = .ok (.iconst 1, 1) := by decide +kernel
theorem dX6_verified_101 : decode cX6_verified 101 = .ok (.goto 4, 3) := by decide +kernel
theorem dX6_verified_104 : decode cX6_verified 104 = .ok (.iconst 0, 1) := by decide +kernel
theorem dX6_verified_105 : decode cX6_verified 105 = .ok (.istore_n 2, 1) := by decide +kernel
theorem dX6_verified_106 : decode cX6_verified 106 = .ok (.iinc 3 1, 3) := by decide +kernel
theorem dX6_verified_109 : decode cX6_verified 109 = .ok (.goto (-37), 3) := by decide +kernel
theorem dX6_verified_112 : decode cX6_verified 112 = .ok (.iload_n 2, 1) := by decide +kernel
theorem dX6_verified_113 : decode cX6_verified 113 = .ok (.ifCond .eq 7, 3) := by decide +kernel
theorem dX6_verified_116 : decode cX6_verified 116 = .ok (.iconst 1, 1) := by decide +kernel
theorem dX6_verified_117 : decode cX6_verified 117 = .ok (.goto 4, 3) := by decide +kernel
theorem dX6_verified_120 : decode cX6_verified 120 = .ok (.iconst 0, 1) := by decide +kernel
theorem dX6_verified_121 : decode cX6_verified 121 = .ok (.ireturn, 1) := by decide +kernel
set_option maxRecDepth 20000 in
theorem ggX6_takeIn_X6_isKind : GoodIn wsX6_takeIn wsX6_isKind := goodIn_r _ [10, 11, 12, 13, 9, 14, 35, 36, 37, 38, 39, 40, 41, 42, 43, 44, 45, 46, 47, 48, 49, 50, 51, 52, 53, 54, 55, 56, 57, 58, 59, 60, 61, 62, 63, 64, 65, 66] rfl (by decide +kernel)
set_option maxRecDepth 20000 in
theorem gX6_takeIn_X6_isKind : GoodIn wsX6_takeIn (wsV RX6 189 RX6 yX6_isKind wsX6_isKind) := goodIn_app (goodIn_of _ (by decide +kernel)) ggX6_takeIn_X6_isKind
set_option maxRecDepth 20000 in
theorem ggX6_takeIn_X6_noBlock : GoodIn wsX6_takeIn wsX6_noBlock := goodIn_r _ [17] rfl (by decide +kernel)
set_option maxRecDepth 20000 in
theorem gX6_takeIn_X6_noBlock : GoodIn wsX6_takeIn (va_wsS RX6 221 yX6_noBlock wsX6_noBlock) := goodIn_app (goodIn_of _ (by decide +kernel)) ggX6_takeIn_X6_noBlock
set_option maxRecDepth 20000 in
theorem ggX6_takeIn_X6_isTaken : GoodIn wsX6_takeIn wsX6_isTaken := goodIn_r _ [21, 3, 22, 23, 24, 9, 25, 26, 27, 28, 29, 30, 35, 36, 37, 38, 39, 40, 41, 42, 43, 44, 45, 46, 47, 48, 49, 50, 51, 52, 53, 54, 55, 56, 57, 58, 59, 60, 61, 62, 63, 64, 65, 66] rfl (by decide +kernel)
set_option maxRecDepth 20000 in
theorem gX6_takeIn_X6_isTaken : GoodIn wsX6_takeIn (wsV RX6 224 RX6 yX6_isTaken wsX6_isTaken) := goodIn_app (goodIn_of _ (by decide +kernel)) ggX6_takeIn_X6_isTaken
set_option maxRecDepth 20000 in
theorem ggX6_takeIn_X6_become : GoodIn wsX6_takeIn wsX6_become := goodIn_r _ [34, 11, 1, 35, 36, 37, 38, 39, 40, 41, 42, 43, 44, 45, 46, 47, 48, 49, 50, 51, 52, 53, 54, 55, 56, 57, 58, 59, 60, 61, 62, 63, 64, 65, 66] rfl (by decide +kernel)
set_option maxRecDepth 20000 in
theorem gX6_takeIn_X6_become : GoodIn wsX6_takeIn (wsV RX6 209 RX6 yX6_become wsX6_become) := goodIn_app (goodIn_of _ (by decide +kernel)) ggX6_takeIn_X6_become
set_option maxRecDepth 20000 in
theorem ggX6_takeIn_X6_entryOf : GoodIn wsX6_takeIn wsX6_entryOf := goodIn_r _ [30, 22, 23, 24, 9, 25, 26, 35, 36, 37, 38, 39, 40, 41, 42, 43, 44, 45, 46, 47, 48, 49, 50, 51, 52, 53, 54, 55, 56, 57, 58, 59, 60, 61, 62, 63, 64, 65, 66] rfl (by decide +kernel)
set_option maxRecDepth 20000 in
theorem gX6_takeIn_X6_entryOf : GoodIn wsX6_takeIn (wsV RX6 200 RX6 yX6_entryOf wsX6_entryOf) := goodIn_app (goodIn_of _ (by decide +kernel)) ggX6_takeIn_X6_entryOf
theorem dX6_takeIn_0 : decode cX6_takeIn 0 = .ok (.aload_n 0, 1) := by decide +kernel
theorem dX6_takeIn_1 : decode cX6_takeIn 1 = .ok (.iload_n 1, 1) := by decide +kernel
theorem dX6_takeIn_2 : decode cX6_takeIn 2 = .ok (.iconst 5, 1) := by decide +kernel
theorem dX6_takeIn_3 : decode cX6_takeIn 3 = .ok (.invokevirtual 189, 3) := by decide +kernel
theorem dX6_takeIn_6 : decode cX6_takeIn 6 = .ok (.ifCond .eq 39, 3) := by decide +kernel
theorem dX6_takeIn_9 : decode cX6_takeIn 9 = .ok (.aload_n 0, 1) := by decide +kernel
theorem dX6_takeIn_10 : decode cX6_takeIn 10 = .ok (.getfield 19, 3) := by decide +kernel
theorem dX6_takeIn_13 : decode cX6_takeIn 13 = .ok (.iload_n 1, 1) := by decide +kernel
theorem dX6_takeIn_14 : decode cX6_takeIn 14 = .ok (.iaload, 1) := by decide +kernel
theorem dX6_takeIn_15 : decode cX6_takeIn 15 = .ok (.aload_n 0, 1) := by decide +kernel
theorem dX6_takeIn_16 : decode cX6_takeIn 16 = .ok (.getfield 231, 3) := by decide +kernel
theorem dX6_takeIn_19 : decode cX6_takeIn 19 = .ok (.if_icmp .ne 26, 3) := by decide +kernel
theorem dX6_takeIn_22 : decode cX6_takeIn 22 = .ok (.iload_n 2, 1) := by decide +kernel
theorem dX6_takeIn_23 : decode cX6_takeIn 23 = .ok (.invokestatic 221, 3) := by decide +kernel
theorem dX6_takeIn_26 : decode cX6_takeIn 26 = .ok (.ifCond .ne 19, 3) := by decide +kernel
theorem dX6_takeIn_29 : decode cX6_takeIn 29 = .ok (.iload_n 3, 1) := by decide +kernel
theorem dX6_takeIn_30 : decode cX6_takeIn 30 = .ok (.ifCond .eq 15, 3) := by decide +kernel
theorem dX6_takeIn_33 : decode cX6_takeIn 33 = .ok (.aload_n 0, 1) := by decide +kernel
theorem dX6_takeIn_34 : decode cX6_takeIn 34 = .ok (.aload_n 0, 1) := by decide +kernel
theorem dX6_takeIn_35 : decode cX6_takeIn 35 = .ok (.getfield 231, 3) := by decide +kernel
theorem dX6_takeIn_38 : decode cX6_takeIn 38 = .ok (.iload_n 2, 1) := by decide +kernel
theorem dX6_takeIn_39 : decode cX6_takeIn 39 = .ok (.invokevirtual 224, 3) := by decide +kernel
theorem dX6_takeIn_42 : decode cX6_takeIn 42 = .ok (.ifCond .eq 5, 3) := by decide +kernel
theorem dX6_takeIn_45 : decode cX6_takeIn 45 = .ok (.iconst 1, 1) := by decide +kernel
theorem dX6_takeIn_46 : decode cX6_takeIn 46 = .ok (.ireturn, 1) := by decide +kernel
theorem dX6_takeIn_47 : decode cX6_takeIn 47 = .ok (.aload_n 0, 1) := by decide +kernel
theorem dX6_takeIn_48 : decode cX6_takeIn 48 = .ok (.iload_n 1, 1) := by decide +kernel
theorem dX6_takeIn_49 : decode cX6_takeIn 49 = .ok (.iconst 4, 1) := by decide +kernel
theorem dX6_takeIn_50 : decode cX6_takeIn 50 = .ok (.aload_n 0, 1) := by decide +kernel
theorem dX6_takeIn_51 : decode cX6_takeIn 51 = .ok (.getfield 231, 3) := by decide +kernel
theorem dX6_takeIn_54 : decode cX6_takeIn 54 = .ok (.invokevirtual 209, 3) := by decide +kernel
theorem dX6_takeIn_57 : decode cX6_takeIn 57 = .ok (.aload_n 0, 1) := by decide +kernel
theorem dX6_takeIn_58 : decode cX6_takeIn 58 = .ok (.getfield 28, 3) := by decide +kernel
theorem dX6_takeIn_61 : decode cX6_takeIn 61 = .ok (.aload_n 0, 1) := by decide +kernel
theorem dX6_takeIn_62 : decode cX6_takeIn 62 = .ok (.aload_n 0, 1) := by decide +kernel
theorem dX6_takeIn_63 : decode cX6_takeIn 63 = .ok (.getfield 231, 3) := by decide +kernel
theorem dX6_takeIn_66 : decode cX6_takeIn 66 = .ok (.iload_n 2, 1) := by decide +kernel
theorem dX6_takeIn_67 : decode cX6_takeIn 67 = .ok (.invokevirtual 200, 3) := by decide +kernel
theorem dX6_takeIn_70 : decode cX6_takeIn 70 = .ok (.iload_n 1, 1) := by decide +kernel
theorem dX6_takeIn_71 : decode cX6_takeIn 71 = .ok (.iconst 1, 1) := by decide +kernel
theorem dX6_takeIn_72 : decode cX6_takeIn 72 = .ok (.iadd, 1) := by decide +kernel
theorem dX6_takeIn_73 : decode cX6_takeIn 73 = .ok (.iastore, 1) := by decide +kernel
theorem dX6_takeIn_74 : decode cX6_takeIn 74 = .ok (.aload_n 0, 1) := by decide +kernel
theorem dX6_takeIn_75 : decode cX6_takeIn 75 = .ok (.getfield 31, 3) := by decide +kernel
theorem dX6_takeIn_78 : decode cX6_takeIn 78 = .ok (.aload_n 0, 1) := by decide +kernel
theorem dX6_takeIn_79 : decode cX6_takeIn 79 = .ok (.aload_n 0, 1) := by decide +kernel
theorem dX6_takeIn_80 : decode cX6_takeIn 80 = .ok (.getfield 231, 3) := by decide +kernel
theorem dX6_takeIn_83 : decode cX6_takeIn 83 = .ok (.iload_n 2, 1) := by decide +kernel
theorem dX6_takeIn_84 : decode cX6_takeIn 84 = .ok (.invokevirtual 200, 3) := by decide +kernel
theorem dX6_takeIn_87 : decode cX6_takeIn 87 = .ok (.iload_n 3, 1) := by decide +kernel
theorem dX6_takeIn_88 : decode cX6_takeIn 88 = .ok (.iastore, 1) := by decide +kernel
theorem dX6_takeIn_89 : decode cX6_takeIn 89 = .ok (.iconst 0, 1) := by decide +kernel
theorem dX6_takeIn_90 : decode cX6_takeIn 90 = .ok (.istore 4, 2) := by decide +kernel
theorem dX6_takeIn_92 : decode cX6_takeIn 92 = .ok (.iload 4, 2) := by decide +kernel
theorem dX6_takeIn_94 : decode cX6_takeIn 94 = .ok (.bipush 16, 2) := by decide +kernel
theorem dX6_takeIn_96 : decode cX6_takeIn 96 = .ok (.if_icmp .ge 22, 3) := by decide +kernel
theorem dX6_takeIn_99 : decode cX6_takeIn 99 = .ok (.aload_n 0, 1) := by decide +kernel
theorem dX6_takeIn_100 : decode cX6_takeIn 100 = .ok (.getfield 25, 3) := by decide +kernel
theorem dX6_takeIn_103 : decode cX6_takeIn 103 = .ok (.bipush 16, 2) := by decide +kernel
theorem dX6_takeIn_105 : decode cX6_takeIn 105 = .ok (.iload_n 1, 1) := by decide +kernel
theorem dX6_takeIn_106 : decode cX6_takeIn 106 = .ok (.imul, 1) := by decide +kernel
theorem dX6_takeIn_107 : decode cX6_takeIn 107 = .ok (.iload 4, 2) := by decide +kernel
theorem dX6_takeIn_109 : decode cX6_takeIn 109 = .ok (.iadd, 1) := by decide +kernel
theorem dX6_takeIn_110 : decode cX6_takeIn 110 = .ok (.iconst 0, 1) := by decide +kernel
theorem dX6_takeIn_111 : decode cX6_takeIn 111 = .ok (.iastore, 1) := by decide +kernel
theorem dX6_takeIn_112 : decode cX6_takeIn 112 = .ok (.iinc 4 1, 3) := by decide +kernel
theorem dX6_takeIn_115 : decode cX6_takeIn 115 = .ok (.goto (-23), 3) := by decide +kernel
theorem dX6_takeIn_118 : decode cX6_takeIn 118 = .ok (.iconst 0, 1) := by decide +kernel
theorem dX6_takeIn_119 : decode cX6_takeIn 119 = .ok (.ireturn, 1) := by decide +kernel
set_option maxRecDepth 20000 in
theorem ggX6_giveBack_X6_noBlock : GoodIn wsX6_giveBack wsX6_noBlock := goodIn_r _ [7] rfl (by decide +kernel)
set_option maxRecDepth 20000 in
theorem gX6_giveBack_X6_noBlock : GoodIn wsX6_giveBack (va_wsS RX6 221 yX6_noBlock wsX6_noBlock) := goodIn_app (goodIn_of _ (by decide +kernel)) ggX6_giveBack_X6_noBlock
set_option maxRecDepth 20000 in
theorem ggX6_giveBack_X6_tableOf : GoodIn wsX6_giveBack wsX6_tableOf := goodIn_r _ [11, 12, 17, 18, 19, 20, 21, 22, 23, 24, 25, 26, 27, 28, 29, 30, 31, 32, 33, 34, 35, 36, 37, 38, 39, 40, 41, 42, 43, 44, 45, 46, 47, 48] rfl (by decide +kernel)
set_option maxRecDepth 20000 in
theorem gX6_giveBack_X6_tableOf : GoodIn wsX6_giveBack (wsV RX6 197 RX6 yX6_tableOf wsX6_tableOf) := goodIn_app (goodIn_of _ (by decide +kernel)) ggX6_giveBack_X6_tableOf
set_option maxRecDepth 20000 in
theorem ggX6_giveBack_X6_entryOf : GoodIn wsX6_giveBack wsX6_entryOf := goodIn_r _ [16, 8, 9, 10, 6, 11, 12, 17, 18, 19, 20, 21, 22, 23, 24, 25, 26, 27, 28, 29, 30, 31, 32, 33, 34, 35, 36, 37, 38, 39, 40, 41, 42, 43, 44, 45, 46, 47, 48] rfl (by decide +kernel)
set_option maxRecDepth 20000 in
theorem gX6_giveBack_X6_entryOf : GoodIn wsX6_giveBack (wsV RX6 200 RX6 yX6_entryOf wsX6_entryOf) := goodIn_app (goodIn_of _ (by decide +kernel)) ggX6_giveBack_X6_entryOf
theorem dX6_giveBack_0 : decode cX6_giveBack 0 = .ok (.iload_n 1, 1) := by decide +kernel
theorem dX6_giveBack_1 : decode cX6_giveBack 1 = .ok (.invokestatic 221, 3) := by decide +kernel
theorem dX6_giveBack_4 : decode cX6_giveBack 4 = .ok (.ifCond .ne 32, 3) := by decide +kernel
theorem dX6_giveBack_7 : decode cX6_giveBack 7 = .ok (.aload_n 0, 1) := by decide +kernel
theorem dX6_giveBack_8 : decode cX6_giveBack 8 = .ok (.aload_n 0, 1) := by decide +kernel
theorem dX6_giveBack_9 : decode cX6_giveBack 9 = .ok (.getfield 231, 3) := by decide +kernel
theorem dX6_giveBack_12 : decode cX6_giveBack 12 = .ok (.iload_n 1, 1) := by decide +kernel
theorem dX6_giveBack_13 : decode cX6_giveBack 13 = .ok (.invokevirtual 197, 3) := by decide +kernel
theorem dX6_giveBack_16 : decode cX6_giveBack 16 = .ok (.ifCond .lt 20, 3) := by decide +kernel
theorem dX6_giveBack_19 : decode cX6_giveBack 19 = .ok (.aload_n 0, 1) := by decide +kernel
theorem dX6_giveBack_20 : decode cX6_giveBack 20 = .ok (.getfield 28, 3) := by decide +kernel
theorem dX6_giveBack_23 : decode cX6_giveBack 23 = .ok (.aload_n 0, 1) := by decide +kernel
theorem dX6_giveBack_24 : decode cX6_giveBack 24 = .ok (.aload_n 0, 1) := by decide +kernel
theorem dX6_giveBack_25 : decode cX6_giveBack 25 = .ok (.getfield 231, 3) := by decide +kernel
theorem dX6_giveBack_28 : decode cX6_giveBack 28 = .ok (.iload_n 1, 1) := by decide +kernel
theorem dX6_giveBack_29 : decode cX6_giveBack 29 = .ok (.invokevirtual 200, 3) := by decide +kernel
theorem dX6_giveBack_32 : decode cX6_giveBack 32 = .ok (.iaload, 1) := by decide +kernel
theorem dX6_giveBack_33 : decode cX6_giveBack 33 = .ok (.ifCond .gt 5, 3) := by decide +kernel
theorem dX6_giveBack_36 : decode cX6_giveBack 36 = .ok (.iconst (-1), 1) := by decide +kernel
theorem dX6_giveBack_37 : decode cX6_giveBack 37 = .ok (.ireturn, 1) := by decide +kernel
theorem dX6_giveBack_38 : decode cX6_giveBack 38 = .ok (.aload_n 0, 1) := by decide +kernel
theorem dX6_giveBack_39 : decode cX6_giveBack 39 = .ok (.getfield 28, 3) := by decide +kernel
theorem dX6_giveBack_42 : decode cX6_giveBack 42 = .ok (.aload_n 0, 1) := by decide +kernel
theorem dX6_giveBack_43 : decode cX6_giveBack 43 = .ok (.aload_n 0, 1) := by decide +kernel
theorem dX6_giveBack_44 : decode cX6_giveBack 44 = .ok (.getfield 231, 3) := by decide +kernel
theorem dX6_giveBack_47 : decode cX6_giveBack 47 = .ok (.iload_n 1, 1) := by decide +kernel
theorem dX6_giveBack_48 : decode cX6_giveBack 48 = .ok (.invokevirtual 200, 3) := by decide +kernel
theorem dX6_giveBack_51 : decode cX6_giveBack 51 = .ok (.iaload, 1) := by decide +kernel
theorem dX6_giveBack_52 : decode cX6_giveBack 52 = .ok (.iconst 1, 1) := by decide +kernel
theorem dX6_giveBack_53 : decode cX6_giveBack 53 = .ok (.isub, 1) := by decide +kernel
theorem dX6_giveBack_54 : decode cX6_giveBack 54 = .ok (.istore_n 2, 1) := by decide +kernel
theorem dX6_giveBack_55 : decode cX6_giveBack 55 = .ok (.aload_n 0, 1) := by decide +kernel
theorem dX6_giveBack_56 : decode cX6_giveBack 56 = .ok (.getfield 28, 3) := by decide +kernel
theorem dX6_giveBack_59 : decode cX6_giveBack 59 = .ok (.aload_n 0, 1) := by decide +kernel
theorem dX6_giveBack_60 : decode cX6_giveBack 60 = .ok (.aload_n 0, 1) := by decide +kernel
theorem dX6_giveBack_61 : decode cX6_giveBack 61 = .ok (.getfield 231, 3) := by decide +kernel
theorem dX6_giveBack_64 : decode cX6_giveBack 64 = .ok (.iload_n 1, 1) := by decide +kernel
theorem dX6_giveBack_65 : decode cX6_giveBack 65 = .ok (.invokevirtual 200, 3) := by decide +kernel
theorem dX6_giveBack_68 : decode cX6_giveBack 68 = .ok (.iconst 0, 1) := by decide +kernel
theorem dX6_giveBack_69 : decode cX6_giveBack 69 = .ok (.iastore, 1) := by decide +kernel
theorem dX6_giveBack_70 : decode cX6_giveBack 70 = .ok (.aload_n 0, 1) := by decide +kernel
theorem dX6_giveBack_71 : decode cX6_giveBack 71 = .ok (.getfield 16, 3) := by decide +kernel
theorem dX6_giveBack_74 : decode cX6_giveBack 74 = .ok (.iload_n 2, 1) := by decide +kernel
theorem dX6_giveBack_75 : decode cX6_giveBack 75 = .ok (.iconst 5, 1) := by decide +kernel
theorem dX6_giveBack_76 : decode cX6_giveBack 76 = .ok (.iastore, 1) := by decide +kernel
theorem dX6_giveBack_77 : decode cX6_giveBack 77 = .ok (.iload_n 2, 1) := by decide +kernel
theorem dX6_giveBack_78 : decode cX6_giveBack 78 = .ok (.ireturn, 1) := by decide +kernel
theorem dX6_put_0 : decode cX6_put 0 = .ok (.aload_n 0, 1) := by decide +kernel
theorem dX6_put_1 : decode cX6_put 1 = .ok (.getfield 237, 3) := by decide +kernel
theorem dX6_put_4 : decode cX6_put 4 = .ok (.ifCond .ne 10, 3) := by decide +kernel
theorem dX6_put_7 : decode cX6_put 7 = .ok (.aload_n 0, 1) := by decide +kernel
theorem dX6_put_8 : decode cX6_put 8 = .ok (.getfield 59, 3) := by decide +kernel
theorem dX6_put_11 : decode cX6_put 11 = .ok (.iload_n 1, 1) := by decide +kernel
theorem dX6_put_12 : decode cX6_put 12 = .ok (.iload_n 2, 1) := by decide +kernel
theorem dX6_put_13 : decode cX6_put 13 = .ok (.iastore, 1) := by decide +kernel
theorem dX6_put_14 : decode cX6_put 14 = .ok (.return_, 1) := by decide +kernel
set_option maxRecDepth 20000 in
theorem ggX6_one_X6_lies : GoodIn wsX6_one wsX6_lies := goodIn_r _ [13, 8, 14, 15, 16, 17, 18, 12, 19, 20, 21, 22, 23, 24, 97, 98, 99, 100, 101, 102, 103, 104, 105, 106, 107, 108, 109, 110, 111, 112, 113, 114, 115, 116, 117, 118, 119, 120, 121, 122, 123, 124, 125, 126, 127, 128] rfl (by decide +kernel)
set_option maxRecDepth 20000 in
theorem gX6_one_X6_lies : GoodIn wsX6_one (wsV RX6 234 RX6 yX6_lies wsX6_lies) := goodIn_app (goodIn_of _ (by decide +kernel)) ggX6_one_X6_lies
set_option maxRecDepth 20000 in
theorem ggX6_one_X6_load : GoodIn wsX6_one wsX6_load := goodIn_r _ [28, 2, 3, 4, 9, 10, 11, 12, 13, 8, 14, 15, 16, 17, 18, 19, 20, 21, 22, 23, 24, 97, 98, 99, 100, 101, 102, 103, 104, 105, 106, 107, 108, 109, 110, 111, 112, 113, 114, 115, 116, 117, 118, 119, 120, 121, 122, 123, 124, 125, 126, 127, 128] rfl (by decide +kernel)
set_option maxRecDepth 20000 in
theorem gX6_one_X6_load : GoodIn wsX6_one (wsV RX6 240 RX6 yX6_load wsX6_load) := goodIn_app (goodIn_of _ (by decide +kernel)) ggX6_one_X6_load
set_option maxRecDepth 20000 in
theorem ggX6_one_X6_put : GoodIn wsX6_one wsX6_put := goodIn_r _ [32, 2, 5, 97, 98, 99, 100, 101, 102, 103, 104, 105, 106, 107, 108, 109, 110, 111, 112, 113, 114, 115, 116, 117, 118, 119, 120, 121, 122, 123, 124, 125, 126, 127, 128] rfl (by decide +kernel)
set_option maxRecDepth 20000 in
theorem gX6_one_X6_put : GoodIn wsX6_one (wsV RX6 253 RX6 yX6_put wsX6_put) := goodIn_app (goodIn_of _ (by decide +kernel)) ggX6_one_X6_put
set_option maxRecDepth 20000 in
theorem ggX6_one_X6_store : GoodIn wsX6_one wsX6_store := goodIn_r _ [36, 2, 3, 4, 9, 10, 11, 12, 13, 8, 14, 15, 16, 17, 18, 19, 20, 21, 22, 23, 24, 97, 98, 99, 100, 101, 102, 103, 104, 105, 106, 107, 108, 109, 110, 111, 112, 113, 114, 115, 116, 117, 118, 119, 120, 121, 122, 123, 124, 125, 126, 127, 128] rfl (by decide +kernel)
set_option maxRecDepth 20000 in
theorem gX6_one_X6_store : GoodIn wsX6_one (wsV RX6 247 RX6 yX6_store wsX6_store) := goodIn_app (goodIn_of _ (by decide +kernel)) ggX6_one_X6_store
set_option maxRecDepth 20000 in
theorem ggX6_one_X6_vouch : GoodIn wsX6_one wsX6_vouch := goodIn_r _ [40, 41, 2, 7, 8, 42, 25, 26, 27, 12, 28, 3, 4, 9, 10, 11, 13, 14, 15, 16, 17, 18, 19, 20, 21, 22, 23, 24, 43, 44, 45, 46, 47, 48, 49, 50, 51, 52, 53, 54, 55, 56, 57, 58, 59, 60, 61, 62, 63, 33, 34, 35, 36, 97, 98, 99, 100, 101, 102, 103, 104, 105, 106, 107, 108, 109, 110, 111, 112, 113, 114, 115, 116, 117, 118, 119, 120, 121, 122, 123, 124, 125, 126, 127, 128] rfl (by decide +kernel)
set_option maxRecDepth 20000 in
theorem gX6_one_X6_vouch : GoodIn wsX6_one (wsV RX6 256 RX6 yX6_vouch wsX6_vouch) := goodIn_app (goodIn_of _ (by decide +kernel)) ggX6_one_X6_vouch
set_option maxRecDepth 20000 in
theorem ggX6_one_X6_verified : GoodIn wsX6_one wsX6_verified := goodIn_r _ [67, 68, 41, 42, 25, 26, 27, 12, 28, 2, 3, 4, 9, 10, 11, 13, 8, 14, 15, 16, 17, 18, 19, 20, 21, 22, 23, 24, 43, 44, 45, 46, 47, 48, 49, 50, 51, 52, 53, 54, 55, 56, 57, 58, 59, 60, 61, 62, 63, 97, 98, 99, 100, 101, 102, 103, 104, 105, 106, 107, 108, 109, 110, 111, 112, 113, 114, 115, 116, 117, 118, 119, 120, 121, 122, 123, 124, 125, 126, 127, 128] rfl (by decide +kernel)
set_option maxRecDepth 20000 in
theorem gX6_one_X6_verified : GoodIn wsX6_one (wsV RX6 259 RX6 yX6_verified wsX6_verified) := goodIn_app (goodIn_of _ (by decide +kernel)) ggX6_one_X6_verified
set_option maxRecDepth 20000 in
theorem ggX6_one_X6_takeIn : GoodIn wsX6_one wsX6_takeIn := goodIn_r _ [72, 73, 8, 14, 15, 3, 74, 75, 76, 12, 77, 78, 79, 80, 81, 82, 83, 84, 85, 86, 87, 88, 16, 17, 18, 19, 20, 21, 22, 23, 24, 89, 90, 91, 92, 97, 98, 99, 100, 101, 102, 103, 104, 105, 106, 107, 108, 109, 110, 111, 112, 113, 114, 115, 116, 117, 118, 119, 120, 121, 122, 123, 124, 125, 126, 127, 128] rfl (by decide +kernel)
set_option maxRecDepth 20000 in
theorem gX6_one_X6_takeIn : GoodIn wsX6_one (wsV RX6 262 RX6 yX6_takeIn wsX6_takeIn) := goodIn_app (goodIn_of _ (by decide +kernel)) ggX6_one_X6_takeIn
set_option maxRecDepth 20000 in
theorem ggX6_one_X6_giveBack : GoodIn wsX6_one wsX6_giveBack := goodIn_r _ [96, 8, 14, 78, 82, 83, 12, 84, 16, 17, 18, 19, 20, 21, 22, 23, 24, 97, 98, 99, 100, 101, 102, 103, 104, 105, 106, 107, 108, 109, 110, 111, 112, 113, 114, 115, 116, 117, 118, 119, 120, 121, 122, 123, 124, 125, 126, 127, 128] rfl (by decide +kernel)
set_option maxRecDepth 20000 in
theorem gX6_one_X6_giveBack : GoodIn wsX6_one (wsV RX6 266 RX6 yX6_giveBack wsX6_giveBack) := goodIn_app (goodIn_of _ (by decide +kernel)) ggX6_one_X6_giveBack
theorem dX6_one_0 : decode cX6_one 0 = .ok (.aload_n 0, 1) := by decide +kernel
theorem dX6_one_1 : decode cX6_one 1 = .ok (.aload_n 0, 1) := by decide +kernel
theorem dX6_one_2 : decode cX6_one 2 = .ok (.getfield 250, 3) := by decide +kernel
theorem dX6_one_5 : decode cX6_one 5 = .ok (.iconst 4, 1) := by decide +kernel
theorem dX6_one_6 : decode cX6_one 6 = .ok (.invokevirtual 234, 3) := by decide +kernel
theorem dX6_one_9 : decode cX6_one 9 = .ok (.istore_n 1, 1) := by decide +kernel
theorem dX6_one_10 : decode cX6_one 10 = .ok (.iload_n 1, 1) := by decide +kernel
theorem dX6_one_11 : decode cX6_one 11 = .ok (.ifCond .ge 10, 3) := by decide +kernel
theorem dX6_one_14 : decode cX6_one 14 = .ok (.aload_n 0, 1) := by decide +kernel
theorem dX6_one_15 : decode cX6_one 15 = .ok (.iconst 1, 1) := by decide +kernel
theorem dX6_one_16 : decode cX6_one 16 = .ok (.putfield 237, 3) := by decide +kernel
theorem dX6_one_19 : decode cX6_one 19 = .ok (.iconst 0, 1) := by decide +kernel
theorem dX6_one_20 : decode cX6_one 20 = .ok (.ireturn, 1) := by decide +kernel
theorem dX6_one_21 : decode cX6_one 21 = .ok (.iload_n 1, 1) := by decide +kernel
theorem dX6_one_22 : decode cX6_one 22 = .ok (.sipush 320, 3) := by decide +kernel
theorem dX6_one_25 : decode cX6_one 25 = .ok (.if_icmp .ge 12, 3) := by decide +kernel
theorem dX6_one_28 : decode cX6_one 28 = .ok (.aload_n 0, 1) := by decide +kernel
theorem dX6_one_29 : decode cX6_one 29 = .ok (.getfield 25, 3) := by decide +kernel
theorem dX6_one_32 : decode cX6_one 32 = .ok (.iload_n 1, 1) := by decide +kernel
theorem dX6_one_33 : decode cX6_one 33 = .ok (.iaload, 1) := by decide +kernel
theorem dX6_one_34 : decode cX6_one 34 = .ok (.goto 13, 3) := by decide +kernel
theorem dX6_one_37 : decode cX6_one 37 = .ok (.aload_n 0, 1) := by decide +kernel
theorem dX6_one_38 : decode cX6_one 38 = .ok (.getfield 13, 3) := by decide +kernel
theorem dX6_one_41 : decode cX6_one 41 = .ok (.iload_n 1, 1) := by decide +kernel
theorem dX6_one_42 : decode cX6_one 42 = .ok (.sipush 320, 3) := by decide +kernel
theorem dX6_one_45 : decode cX6_one 45 = .ok (.isub, 1) := by decide +kernel
theorem dX6_one_46 : decode cX6_one 46 = .ok (.iaload, 1) := by decide +kernel
theorem dX6_one_47 : decode cX6_one 47 = .ok (.istore_n 2, 1) := by decide +kernel
theorem dX6_one_48 : decode cX6_one 48 = .ok (.iload_n 2, 1) := by decide +kernel
theorem dX6_one_49 : decode cX6_one 49 = .ok (.iconst 4, 1) := by decide +kernel
theorem dX6_one_50 : decode cX6_one 50 = .ok (.ishr, 1) := by decide +kernel
theorem dX6_one_51 : decode cX6_one 51 = .ok (.iconst 3, 1) := by decide +kernel
theorem dX6_one_52 : decode cX6_one 52 = .ok (.iand, 1) := by decide +kernel
theorem dX6_one_53 : decode cX6_one 53 = .ok (.istore_n 3, 1) := by decide +kernel
theorem dX6_one_54 : decode cX6_one 54 = .ok (.aload_n 0, 1) := by decide +kernel
theorem dX6_one_55 : decode cX6_one 55 = .ok (.getfield 59, 3) := by decide +kernel
theorem dX6_one_58 : decode cX6_one 58 = .ok (.iload_n 2, 1) := by decide +kernel
theorem dX6_one_59 : decode cX6_one 59 = .ok (.bipush 6, 2) := by decide +kernel
theorem dX6_one_61 : decode cX6_one 61 = .ok (.ishr, 1) := by decide +kernel
theorem dX6_one_62 : decode cX6_one 62 = .ok (.iconst 3, 1) := by decide +kernel
theorem dX6_one_63 : decode cX6_one 63 = .ok (.iand, 1) := by decide +kernel
theorem dX6_one_64 : decode cX6_one 64 = .ok (.iaload, 1) := by decide +kernel
theorem dX6_one_65 : decode cX6_one 65 = .ok (.istore 4, 2) := by decide +kernel
theorem dX6_one_67 : decode cX6_one 67 = .ok (.iload_n 2, 1) := by decide +kernel
theorem dX6_one_68 : decode cX6_one 68 = .ok (.bipush 8, 2) := by decide +kernel
theorem dX6_one_70 : decode cX6_one 70 = .ok (.ishr, 1) := by decide +kernel
theorem dX6_one_71 : decode cX6_one 71 = .ok (.istore 5, 2) := by decide +kernel
theorem dX6_one_73 : decode cX6_one 73 = .ok (.aload_n 0, 1) := by decide +kernel
theorem dX6_one_74 : decode cX6_one 74 = .ok (.dup, 1) := by decide +kernel
theorem dX6_one_75 : decode cX6_one 75 = .ok (.getfield 250, 3) := by decide +kernel
theorem dX6_one_78 : decode cX6_one 78 = .ok (.iconst 1, 1) := by decide +kernel
theorem dX6_one_79 : decode cX6_one 79 = .ok (.iadd, 1) := by decide +kernel
theorem dX6_one_80 : decode cX6_one 80 = .ok (.putfield 250, 3) := by decide +kernel
theorem dX6_one_83 : decode cX6_one 83 = .ok (.iload_n 2, 1) := by decide +kernel
theorem dX6_one_84 : decode cX6_one 84 = .ok (.bipush 15, 2) := by decide +kernel
theorem dX6_one_86 : decode cX6_one 86 = .ok (.iand, 1) := by decide +kernel
theorem dX6_one_87 : decode cX6_one 87 = .ok (.tableswitch 326 0 13 #[69, 81, 92, 110, 128, 146, 164, 181, 199, 229, 244, 258, 285, 311], 69) := by decide +kernel
theorem dX6_one_156 : decode cX6_one 156 = .ok (.aload_n 0, 1) := by decide +kernel
theorem dX6_one_157 : decode cX6_one 157 = .ok (.aload_n 0, 1) := by decide +kernel
theorem dX6_one_158 : decode cX6_one 158 = .ok (.getfield 59, 3) := by decide +kernel
theorem dX6_one_161 : decode cX6_one 161 = .ok (.iload_n 3, 1) := by decide +kernel
theorem dX6_one_162 : decode cX6_one 162 = .ok (.iaload, 1) := by decide +kernel
theorem dX6_one_163 : decode cX6_one 163 = .ok (.putfield 162, 3) := by decide +kernel
theorem dX6_one_166 : decode cX6_one 166 = .ok (.iconst 1, 1) := by decide +kernel
theorem dX6_one_167 : decode cX6_one 167 = .ok (.ireturn, 1) := by decide +kernel
theorem dX6_one_168 : decode cX6_one 168 = .ok (.aload_n 0, 1) := by decide +kernel
theorem dX6_one_169 : decode cX6_one 169 = .ok (.getfield 59, 3) := by decide +kernel
theorem dX6_one_172 : decode cX6_one 172 = .ok (.iload_n 3, 1) := by decide +kernel
theorem dX6_one_173 : decode cX6_one 173 = .ok (.iload 5, 2) := by decide +kernel
theorem dX6_one_175 : decode cX6_one 175 = .ok (.iastore, 1) := by decide +kernel
theorem dX6_one_176 : decode cX6_one 176 = .ok (.goto 242, 3) := by decide +kernel
theorem dX6_one_179 : decode cX6_one 179 = .ok (.aload_n 0, 1) := by decide +kernel
theorem dX6_one_180 : decode cX6_one 180 = .ok (.getfield 59, 3) := by decide +kernel
theorem dX6_one_183 : decode cX6_one 183 = .ok (.iload_n 3, 1) := by decide +kernel
theorem dX6_one_184 : decode cX6_one 184 = .ok (.aload_n 0, 1) := by decide +kernel
theorem dX6_one_185 : decode cX6_one 185 = .ok (.getfield 59, 3) := by decide +kernel
theorem dX6_one_188 : decode cX6_one 188 = .ok (.iload_n 3, 1) := by decide +kernel
theorem dX6_one_189 : decode cX6_one 189 = .ok (.iaload, 1) := by decide +kernel
theorem dX6_one_190 : decode cX6_one 190 = .ok (.iload 4, 2) := by decide +kernel
theorem dX6_one_192 : decode cX6_one 192 = .ok (.iadd, 1) := by decide +kernel
theorem dX6_one_193 : decode cX6_one 193 = .ok (.iastore, 1) := by decide +kernel
theorem dX6_one_194 : decode cX6_one 194 = .ok (.goto 224, 3) := by decide +kernel
theorem dX6_one_197 : decode cX6_one 197 = .ok (.aload_n 0, 1) := by decide +kernel
theorem dX6_one_198 : decode cX6_one 198 = .ok (.getfield 59, 3) := by decide +kernel
theorem dX6_one_201 : decode cX6_one 201 = .ok (.iload_n 3, 1) := by decide +kernel
theorem dX6_one_202 : decode cX6_one 202 = .ok (.aload_n 0, 1) := by decide +kernel
theorem dX6_one_203 : decode cX6_one 203 = .ok (.getfield 59, 3) := by decide +kernel
theorem dX6_one_206 : decode cX6_one 206 = .ok (.iload_n 3, 1) := by decide +kernel
theorem dX6_one_207 : decode cX6_one 207 = .ok (.iaload, 1) := by decide +kernel
theorem dX6_one_208 : decode cX6_one 208 = .ok (.iload 4, 2) := by decide +kernel
theorem dX6_one_210 : decode cX6_one 210 = .ok (.isub, 1) := by decide +kernel
theorem dX6_one_211 : decode cX6_one 211 = .ok (.iastore, 1) := by decide +kernel
theorem dX6_one_212 : decode cX6_one 212 = .ok (.goto 206, 3) := by decide +kernel
theorem dX6_one_215 : decode cX6_one 215 = .ok (.aload_n 0, 1) := by decide +kernel
theorem dX6_one_216 : decode cX6_one 216 = .ok (.getfield 59, 3) := by decide +kernel
theorem dX6_one_219 : decode cX6_one 219 = .ok (.iload_n 3, 1) := by decide +kernel
theorem dX6_one_220 : decode cX6_one 220 = .ok (.aload_n 0, 1) := by decide +kernel
theorem dX6_one_221 : decode cX6_one 221 = .ok (.getfield 59, 3) := by decide +kernel
theorem dX6_one_224 : decode cX6_one 224 = .ok (.iload_n 3, 1) := by decide +kernel
theorem dX6_one_225 : decode cX6_one 225 = .ok (.iaload, 1) := by decide +kernel
theorem dX6_one_226 : decode cX6_one 226 = .ok (.iload 4, 2) := by decide +kernel
theorem dX6_one_228 : decode cX6_one 228 = .ok (.imul, 1) := by decide +kernel
theorem dX6_one_229 : decode cX6_one 229 = .ok (.iastore, 1) := by decide +kernel
theorem dX6_one_230 : decode cX6_one 230 = .ok (.goto 188, 3) := by decide +kernel
theorem dX6_one_233 : decode cX6_one 233 = .ok (.aload_n 0, 1) := by decide +kernel
theorem dX6_one_234 : decode cX6_one 234 = .ok (.getfield 59, 3) := by decide +kernel
theorem dX6_one_237 : decode cX6_one 237 = .ok (.iload_n 3, 1) := by decide +kernel
theorem dX6_one_238 : decode cX6_one 238 = .ok (.aload_n 0, 1) := by decide +kernel
theorem dX6_one_239 : decode cX6_one 239 = .ok (.getfield 59, 3) := by decide +kernel
theorem dX6_one_242 : decode cX6_one 242 = .ok (.iload_n 3, 1) := by decide +kernel
theorem dX6_one_243 : decode cX6_one 243 = .ok (.iaload, 1) := by decide +kernel
theorem dX6_one_244 : decode cX6_one 244 = .ok (.iload 4, 2) := by decide +kernel
theorem dX6_one_246 : decode cX6_one 246 = .ok (.iand, 1) := by decide +kernel
theorem dX6_one_247 : decode cX6_one 247 = .ok (.iastore, 1) := by decide +kernel
theorem dX6_one_248 : decode cX6_one 248 = .ok (.goto 170, 3) := by decide +kernel
theorem dX6_one_251 : decode cX6_one 251 = .ok (.aload_n 0, 1) := by decide +kernel
theorem dX6_one_252 : decode cX6_one 252 = .ok (.iload_n 3, 1) := by decide +kernel
theorem dX6_one_253 : decode cX6_one 253 = .ok (.aload_n 0, 1) := by decide +kernel
theorem dX6_one_254 : decode cX6_one 254 = .ok (.iload 4, 2) := by decide +kernel
theorem dX6_one_256 : decode cX6_one 256 = .ok (.iload 5, 2) := by decide +kernel
theorem dX6_one_258 : decode cX6_one 258 = .ok (.iadd, 1) := by decide +kernel
theorem dX6_one_259 : decode cX6_one 259 = .ok (.invokevirtual 240, 3) := by decide +kernel
theorem dX6_one_262 : decode cX6_one 262 = .ok (.invokevirtual 253, 3) := by decide +kernel
theorem dX6_one_265 : decode cX6_one 265 = .ok (.goto 153, 3) := by decide +kernel
theorem dX6_one_268 : decode cX6_one 268 = .ok (.aload_n 0, 1) := by decide +kernel
theorem dX6_one_269 : decode cX6_one 269 = .ok (.iload 4, 2) := by decide +kernel
theorem dX6_one_271 : decode cX6_one 271 = .ok (.iload 5, 2) := by decide +kernel
theorem dX6_one_273 : decode cX6_one 273 = .ok (.iadd, 1) := by decide +kernel
theorem dX6_one_274 : decode cX6_one 274 = .ok (.aload_n 0, 1) := by decide +kernel
theorem dX6_one_275 : decode cX6_one 275 = .ok (.getfield 59, 3) := by decide +kernel
theorem dX6_one_278 : decode cX6_one 278 = .ok (.iload_n 3, 1) := by decide +kernel
theorem dX6_one_279 : decode cX6_one 279 = .ok (.iaload, 1) := by decide +kernel
theorem dX6_one_280 : decode cX6_one 280 = .ok (.invokevirtual 247, 3) := by decide +kernel
theorem dX6_one_283 : decode cX6_one 283 = .ok (.goto 135, 3) := by decide +kernel
theorem dX6_one_286 : decode cX6_one 286 = .ok (.aload_n 0, 1) := by decide +kernel
theorem dX6_one_287 : decode cX6_one 287 = .ok (.aload_n 0, 1) := by decide +kernel
theorem dX6_one_288 : decode cX6_one 288 = .ok (.getfield 59, 3) := by decide +kernel
theorem dX6_one_291 : decode cX6_one 291 = .ok (.iload_n 3, 1) := by decide +kernel
theorem dX6_one_292 : decode cX6_one 292 = .ok (.iaload, 1) := by decide +kernel
theorem dX6_one_293 : decode cX6_one 293 = .ok (.ifCond .eq 13, 3) := by decide +kernel
theorem dX6_one_296 : decode cX6_one 296 = .ok (.aload_n 0, 1) := by decide +kernel
theorem dX6_one_297 : decode cX6_one 297 = .ok (.getfield 250, 3) := by decide +kernel
theorem dX6_one_300 : decode cX6_one 300 = .ok (.iload 5, 2) := by decide +kernel
theorem dX6_one_302 : decode cX6_one 302 = .ok (.iadd, 1) := by decide +kernel
theorem dX6_one_303 : decode cX6_one 303 = .ok (.goto 7, 3) := by decide +kernel
theorem dX6_one_306 : decode cX6_one 306 = .ok (.aload_n 0, 1) := by decide +kernel
theorem dX6_one_307 : decode cX6_one 307 = .ok (.getfield 250, 3) := by decide +kernel
theorem dX6_one_310 : decode cX6_one 310 = .ok (.putfield 250, 3) := by decide +kernel
theorem dX6_one_313 : decode cX6_one 313 = .ok (.goto 105, 3) := by decide +kernel
theorem dX6_one_316 : decode cX6_one 316 = .ok (.aload_n 0, 1) := by decide +kernel
theorem dX6_one_317 : decode cX6_one 317 = .ok (.aload_n 0, 1) := by decide +kernel
theorem dX6_one_318 : decode cX6_one 318 = .ok (.getfield 59, 3) := by decide +kernel
theorem dX6_one_321 : decode cX6_one 321 = .ok (.iload_n 3, 1) := by decide +kernel
theorem dX6_one_322 : decode cX6_one 322 = .ok (.iaload, 1) := by decide +kernel
theorem dX6_one_323 : decode cX6_one 323 = .ok (.iload 4, 2) := by decide +kernel
theorem dX6_one_325 : decode cX6_one 325 = .ok (.invokevirtual 256, 3) := by decide +kernel
theorem dX6_one_328 : decode cX6_one 328 = .ok (.goto 90, 3) := by decide +kernel
theorem dX6_one_331 : decode cX6_one 331 = .ok (.aload_n 0, 1) := by decide +kernel
theorem dX6_one_332 : decode cX6_one 332 = .ok (.iload_n 3, 1) := by decide +kernel
theorem dX6_one_333 : decode cX6_one 333 = .ok (.aload_n 0, 1) := by decide +kernel
theorem dX6_one_334 : decode cX6_one 334 = .ok (.iload 4, 2) := by decide +kernel
theorem dX6_one_336 : decode cX6_one 336 = .ok (.invokevirtual 259, 3) := by decide +kernel
theorem dX6_one_339 : decode cX6_one 339 = .ok (.invokevirtual 253, 3) := by decide +kernel
theorem dX6_one_342 : decode cX6_one 342 = .ok (.goto 76, 3) := by decide +kernel
theorem dX6_one_345 : decode cX6_one 345 = .ok (.aload_n 0, 1) := by decide +kernel
theorem dX6_one_346 : decode cX6_one 346 = .ok (.getfield 59, 3) := by decide +kernel
theorem dX6_one_349 : decode cX6_one 349 = .ok (.iload_n 3, 1) := by decide +kernel
theorem dX6_one_350 : decode cX6_one 350 = .ok (.aload_n 0, 1) := by decide +kernel
theorem dX6_one_351 : decode cX6_one 351 = .ok (.getfield 43, 3) := by decide +kernel
theorem dX6_one_354 : decode cX6_one 354 = .ok (.bipush 8, 2) := by decide +kernel
theorem dX6_one_356 : decode cX6_one 356 = .ok (.aload_n 0, 1) := by decide +kernel
theorem dX6_one_357 : decode cX6_one 357 = .ok (.getfield 231, 3) := by decide +kernel
theorem dX6_one_360 : decode cX6_one 360 = .ok (.imul, 1) := by decide +kernel
theorem dX6_one_361 : decode cX6_one 361 = .ok (.iload 5, 2) := by decide +kernel
theorem dX6_one_363 : decode cX6_one 363 = .ok (.bipush 7, 2) := by decide +kernel
theorem dX6_one_365 : decode cX6_one 365 = .ok (.iand, 1) := by decide +kernel
theorem dX6_one_366 : decode cX6_one 366 = .ok (.iadd, 1) := by decide +kernel
theorem dX6_one_367 : decode cX6_one 367 = .ok (.iaload, 1) := by decide +kernel
theorem dX6_one_368 : decode cX6_one 368 = .ok (.iastore, 1) := by decide +kernel
theorem dX6_one_369 : decode cX6_one 369 = .ok (.goto 49, 3) := by decide +kernel
theorem dX6_one_372 : decode cX6_one 372 = .ok (.aload_n 0, 1) := by decide +kernel
theorem dX6_one_373 : decode cX6_one 373 = .ok (.getfield 59, 3) := by decide +kernel
theorem dX6_one_376 : decode cX6_one 376 = .ok (.iload_n 3, 1) := by decide +kernel
theorem dX6_one_377 : decode cX6_one 377 = .ok (.aload_n 0, 1) := by decide +kernel
theorem dX6_one_378 : decode cX6_one 378 = .ok (.aload_n 0, 1) := by decide +kernel
theorem dX6_one_379 : decode cX6_one 379 = .ok (.getfield 59, 3) := by decide +kernel
theorem dX6_one_382 : decode cX6_one 382 = .ok (.iload_n 3, 1) := by decide +kernel
theorem dX6_one_383 : decode cX6_one 383 = .ok (.iaload, 1) := by decide +kernel
theorem dX6_one_384 : decode cX6_one 384 = .ok (.iload 4, 2) := by decide +kernel
theorem dX6_one_386 : decode cX6_one 386 = .ok (.iload 5, 2) := by decide +kernel
theorem dX6_one_388 : decode cX6_one 388 = .ok (.bipush 7, 2) := by decide +kernel
theorem dX6_one_390 : decode cX6_one 390 = .ok (.iand, 1) := by decide +kernel
theorem dX6_one_391 : decode cX6_one 391 = .ok (.invokevirtual 262, 3) := by decide +kernel
theorem dX6_one_394 : decode cX6_one 394 = .ok (.iastore, 1) := by decide +kernel
theorem dX6_one_395 : decode cX6_one 395 = .ok (.goto 23, 3) := by decide +kernel
theorem dX6_one_398 : decode cX6_one 398 = .ok (.aload_n 0, 1) := by decide +kernel
theorem dX6_one_399 : decode cX6_one 399 = .ok (.getfield 59, 3) := by decide +kernel
theorem dX6_one_402 : decode cX6_one 402 = .ok (.iload_n 3, 1) := by decide +kernel
theorem dX6_one_403 : decode cX6_one 403 = .ok (.aload_n 0, 1) := by decide +kernel
theorem dX6_one_404 : decode cX6_one 404 = .ok (.iload 4, 2) := by decide +kernel
theorem dX6_one_406 : decode cX6_one 406 = .ok (.invokevirtual 266, 3) := by decide +kernel
theorem dX6_one_409 : decode cX6_one 409 = .ok (.iastore, 1) := by decide +kernel
theorem dX6_one_410 : decode cX6_one 410 = .ok (.goto 8, 3) := by decide +kernel
theorem dX6_one_413 : decode cX6_one 413 = .ok (.aload_n 0, 1) := by decide +kernel
theorem dX6_one_414 : decode cX6_one 414 = .ok (.iconst 4, 1) := by decide +kernel
theorem dX6_one_415 : decode cX6_one 415 = .ok (.putfield 237, 3) := by decide +kernel
theorem dX6_one_418 : decode cX6_one 418 = .ok (.iconst 0, 1) := by decide +kernel
theorem dX6_one_419 : decode cX6_one 419 = .ok (.ireturn, 1) := by decide +kernel
set_option maxRecDepth 20000 in
theorem ggX6_run_X6_one : GoodIn wsX6_run wsX6_one := goodIn_r _ [15, 10, 5, 16, 17, 9, 6, 18, 3, 19, 20, 21, 14, 22, 23, 24, 25, 26, 27, 28, 29, 30, 31, 32, 33, 34, 35, 36, 37, 38, 39, 40, 41, 42, 43, 44, 45, 46, 47, 48, 49, 50, 51, 52, 53, 54, 55, 56, 57, 58, 59, 60, 61, 62, 63, 64, 65, 66, 67, 68, 69, 70, 71, 72, 73, 74, 75, 76, 77, 78, 79, 80, 81, 1, 82, 83, 84, 85, 86, 87, 88, 89, 90, 91, 92, 93, 94, 95, 96, 97, 98, 99, 100, 101, 102, 103, 104, 105, 106, 107, 108, 109, 110, 111, 112, 113, 114, 115, 116, 117, 118, 119, 120, 121, 122, 123, 124, 125, 126, 127, 128, 129, 130, 131, 132, 133, 134, 135, 136] rfl (by decide +kernel)
set_option maxRecDepth 20000 in
theorem gX6_run_X6_one : GoodIn wsX6_run (wsV RX6 275 RX6 yX6_one wsX6_one) := goodIn_app (goodIn_of _ (by decide +kernel)) ggX6_run_X6_one
theorem dX6_run_0 : decode cX6_run 0 = .ok (.aload_n 0, 1) := by decide +kernel
theorem dX6_run_1 : decode cX6_run 1 = .ok (.aload_n 0, 1) := by decide +kernel
theorem dX6_run_2 : decode cX6_run 2 = .ok (.getfield 19, 3) := by decide +kernel
theorem dX6_run_5 : decode cX6_run 5 = .ok (.aload_n 0, 1) := by decide +kernel
theorem dX6_run_6 : decode cX6_run 6 = .ok (.getfield 269, 3) := by decide +kernel
theorem dX6_run_9 : decode cX6_run 9 = .ok (.iaload, 1) := by decide +kernel
theorem dX6_run_10 : decode cX6_run 10 = .ok (.putfield 231, 3) := by decide +kernel
theorem dX6_run_13 : decode cX6_run 13 = .ok (.aload_n 0, 1) := by decide +kernel
theorem dX6_run_14 : decode cX6_run 14 = .ok (.getfield 53, 3) := by decide +kernel
theorem dX6_run_17 : decode cX6_run 17 = .ok (.aload_n 0, 1) := by decide +kernel
theorem dX6_run_18 : decode cX6_run 18 = .ok (.getfield 269, 3) := by decide +kernel
theorem dX6_run_21 : decode cX6_run 21 = .ok (.iconst 0, 1) := by decide +kernel
theorem dX6_run_22 : decode cX6_run 22 = .ok (.bastore, 1) := by decide +kernel
theorem dX6_run_23 : decode cX6_run 23 = .ok (.aload_n 0, 1) := by decide +kernel
theorem dX6_run_24 : decode cX6_run 24 = .ok (.iconst 0, 1) := by decide +kernel
theorem dX6_run_25 : decode cX6_run 25 = .ok (.putfield 237, 3) := by decide +kernel
theorem dX6_run_28 : decode cX6_run 28 = .ok (.aload_n 0, 1) := by decide +kernel
theorem dX6_run_29 : decode cX6_run 29 = .ok (.iconst 0, 1) := by decide +kernel
theorem dX6_run_30 : decode cX6_run 30 = .ok (.putfield 162, 3) := by decide +kernel
theorem dX6_run_33 : decode cX6_run 33 = .ok (.aload_n 0, 1) := by decide +kernel
theorem dX6_run_34 : decode cX6_run 34 = .ok (.iconst 0, 1) := by decide +kernel
theorem dX6_run_35 : decode cX6_run 35 = .ok (.putfield 272, 3) := by decide +kernel
theorem dX6_run_38 : decode cX6_run 38 = .ok (.aload_n 0, 1) := by decide +kernel
theorem dX6_run_39 : decode cX6_run 39 = .ok (.getfield 272, 3) := by decide +kernel
theorem dX6_run_42 : decode cX6_run 42 = .ok (.iload_n 1, 1) := by decide +kernel
theorem dX6_run_43 : decode cX6_run 43 = .ok (.if_icmp .ge 40, 3) := by decide +kernel
theorem dX6_run_46 : decode cX6_run 46 = .ok (.aload_n 0, 1) := by decide +kernel
theorem dX6_run_47 : decode cX6_run 47 = .ok (.dup, 1) := by decide +kernel
theorem dX6_run_48 : decode cX6_run 48 = .ok (.getfield 272, 3) := by decide +kernel
theorem dX6_run_51 : decode cX6_run 51 = .ok (.iconst 1, 1) := by decide +kernel
theorem dX6_run_52 : decode cX6_run 52 = .ok (.iadd, 1) := by decide +kernel
theorem dX6_run_53 : decode cX6_run 53 = .ok (.putfield 272, 3) := by decide +kernel
theorem dX6_run_56 : decode cX6_run 56 = .ok (.aload_n 0, 1) := by decide +kernel
theorem dX6_run_57 : decode cX6_run 57 = .ok (.invokevirtual 275, 3) := by decide +kernel
theorem dX6_run_60 : decode cX6_run 60 = .ok (.ifCond .eq 5, 3) := by decide +kernel
theorem dX6_run_63 : decode cX6_run 63 = .ok (.iconst 0, 1) := by decide +kernel
theorem dX6_run_64 : decode cX6_run 64 = .ok (.ireturn, 1) := by decide +kernel
theorem dX6_run_65 : decode cX6_run 65 = .ok (.aload_n 0, 1) := by decide +kernel
theorem dX6_run_66 : decode cX6_run 66 = .ok (.getfield 237, 3) := by decide +kernel
theorem dX6_run_69 : decode cX6_run 69 = .ok (.ifCond .le (-31), 3) := by decide +kernel
theorem dX6_run_72 : decode cX6_run 72 = .ok (.aload_n 0, 1) := by decide +kernel
theorem dX6_run_73 : decode cX6_run 73 = .ok (.aload_n 0, 1) := by decide +kernel
theorem dX6_run_74 : decode cX6_run 74 = .ok (.getfield 237, 3) := by decide +kernel
theorem dX6_run_77 : decode cX6_run 77 = .ok (.putfield 162, 3) := by decide +kernel
theorem dX6_run_80 : decode cX6_run 80 = .ok (.bipush 9, 2) := by decide +kernel
theorem dX6_run_82 : decode cX6_run 82 = .ok (.ireturn, 1) := by decide +kernel
theorem dX6_run_83 : decode cX6_run 83 = .ok (.aload_n 0, 1) := by decide +kernel
theorem dX6_run_84 : decode cX6_run 84 = .ok (.getfield 53, 3) := by decide +kernel
theorem dX6_run_87 : decode cX6_run 87 = .ok (.aload_n 0, 1) := by decide +kernel
theorem dX6_run_88 : decode cX6_run 88 = .ok (.getfield 269, 3) := by decide +kernel
theorem dX6_run_91 : decode cX6_run 91 = .ok (.iconst 1, 1) := by decide +kernel
theorem dX6_run_92 : decode cX6_run 92 = .ok (.bastore, 1) := by decide +kernel
theorem dX6_run_93 : decode cX6_run 93 = .ok (.iconst 0, 1) := by decide +kernel
theorem dX6_run_94 : decode cX6_run 94 = .ok (.istore_n 2, 1) := by decide +kernel
theorem dX6_run_95 : decode cX6_run 95 = .ok (.iload_n 2, 1) := by decide +kernel
theorem dX6_run_96 : decode cX6_run 96 = .ok (.iconst 4, 1) := by decide +kernel
theorem dX6_run_97 : decode cX6_run 97 = .ok (.if_icmp .ge 28, 3) := by decide +kernel
theorem dX6_run_100 : decode cX6_run 100 = .ok (.aload_n 0, 1) := by decide +kernel
theorem dX6_run_101 : decode cX6_run 101 = .ok (.getfield 56, 3) := by decide +kernel
theorem dX6_run_104 : decode cX6_run 104 = .ok (.iconst 5, 1) := by decide +kernel
theorem dX6_run_105 : decode cX6_run 105 = .ok (.aload_n 0, 1) := by decide +kernel
theorem dX6_run_106 : decode cX6_run 106 = .ok (.getfield 269, 3) := by decide +kernel
theorem dX6_run_109 : decode cX6_run 109 = .ok (.imul, 1) := by decide +kernel
theorem dX6_run_110 : decode cX6_run 110 = .ok (.iload_n 2, 1) := by decide +kernel
theorem dX6_run_111 : decode cX6_run 111 = .ok (.iadd, 1) := by decide +kernel
theorem dX6_run_112 : decode cX6_run 112 = .ok (.aload_n 0, 1) := by decide +kernel
theorem dX6_run_113 : decode cX6_run 113 = .ok (.getfield 59, 3) := by decide +kernel
theorem dX6_run_116 : decode cX6_run 116 = .ok (.iload_n 2, 1) := by decide +kernel
theorem dX6_run_117 : decode cX6_run 117 = .ok (.iaload, 1) := by decide +kernel
theorem dX6_run_118 : decode cX6_run 118 = .ok (.iastore, 1) := by decide +kernel
theorem dX6_run_119 : decode cX6_run 119 = .ok (.iinc 2 1, 3) := by decide +kernel
theorem dX6_run_122 : decode cX6_run 122 = .ok (.goto (-27), 3) := by decide +kernel
theorem dX6_run_125 : decode cX6_run 125 = .ok (.aload_n 0, 1) := by decide +kernel
theorem dX6_run_126 : decode cX6_run 126 = .ok (.getfield 56, 3) := by decide +kernel
theorem dX6_run_129 : decode cX6_run 129 = .ok (.iconst 5, 1) := by decide +kernel
theorem dX6_run_130 : decode cX6_run 130 = .ok (.aload_n 0, 1) := by decide +kernel
theorem dX6_run_131 : decode cX6_run 131 = .ok (.getfield 269, 3) := by decide +kernel
theorem dX6_run_134 : decode cX6_run 134 = .ok (.imul, 1) := by decide +kernel
theorem dX6_run_135 : decode cX6_run 135 = .ok (.iconst 4, 1) := by decide +kernel
theorem dX6_run_136 : decode cX6_run 136 = .ok (.iadd, 1) := by decide +kernel
theorem dX6_run_137 : decode cX6_run 137 = .ok (.aload_n 0, 1) := by decide +kernel
theorem dX6_run_138 : decode cX6_run 138 = .ok (.getfield 250, 3) := by decide +kernel
theorem dX6_run_141 : decode cX6_run 141 = .ok (.iastore, 1) := by decide +kernel
theorem dX6_run_142 : decode cX6_run 142 = .ok (.bipush 8, 2) := by decide +kernel
theorem dX6_run_144 : decode cX6_run 144 = .ok (.ireturn, 1) := by decide +kernel
set_option maxRecDepth 20000 in
theorem ggX6_wantThread_X6_begin : GoodIn wsX6_wantThread wsX6_begin := goodIn_r _ [9, 10, 1, 23, 24, 25, 26, 27, 28, 29, 30, 31, 32, 33, 34, 35, 36, 37, 38, 39, 40, 41, 42, 43, 44, 45, 46, 47, 48, 49, 50, 51, 52, 53, 54] rfl (by decide +kernel)
set_option maxRecDepth 20000 in
theorem gX6_wantThread_X6_begin : GoodIn wsX6_wantThread (wsV RX6 203 RX6 yX6_begin wsX6_begin) := goodIn_app (goodIn_of _ (by decide +kernel)) ggX6_wantThread_X6_begin
set_option maxRecDepth 20000 in
theorem ggX6_wantThread_X6_noPage : GoodIn wsX6_wantThread wsX6_noPage := goodIn_r _ [13] rfl (by decide +kernel)
set_option maxRecDepth 20000 in
theorem gX6_wantThread_X6_noPage : GoodIn wsX6_wantThread (va_wsS RX6 186 yX6_noPage wsX6_noPage) := goodIn_app (goodIn_of _ (by decide +kernel)) ggX6_wantThread_X6_noPage
set_option maxRecDepth 20000 in
theorem ggX6_wantThread_X6_wrong : GoodIn wsX6_wantThread wsX6_wrong := goodIn_r _ [17, 1, 23, 24, 25, 26, 27, 28, 29, 30, 31, 32, 33, 34, 35, 36, 37, 38, 39, 40, 41, 42, 43, 44, 45, 46, 47, 48, 49, 50, 51, 52, 53, 54] rfl (by decide +kernel)
set_option maxRecDepth 20000 in
theorem gX6_wantThread_X6_wrong : GoodIn wsX6_wantThread (wsV RX6 193 RX6 yX6_wrong wsX6_wrong) := goodIn_app (goodIn_of _ (by decide +kernel)) ggX6_wantThread_X6_wrong
set_option maxRecDepth 20000 in
theorem ggX6_wantThread_X6_isKind : GoodIn wsX6_wantThread wsX6_isKind := goodIn_r _ [21, 22, 11, 12, 8, 13, 23, 24, 25, 26, 27, 28, 29, 30, 31, 32, 33, 34, 35, 36, 37, 38, 39, 40, 41, 42, 43, 44, 45, 46, 47, 48, 49, 50, 51, 52, 53, 54] rfl (by decide +kernel)
set_option maxRecDepth 20000 in
theorem gX6_wantThread_X6_isKind : GoodIn wsX6_wantThread (wsV RX6 189 RX6 yX6_isKind wsX6_isKind) := goodIn_app (goodIn_of _ (by decide +kernel)) ggX6_wantThread_X6_isKind
theorem dX6_wantThread_0 : decode cX6_wantThread 0 = .ok (.aload_n 0, 1) := by decide +kernel
theorem dX6_wantThread_1 : decode cX6_wantThread 1 = .ok (.invokevirtual 203, 3) := by decide +kernel
theorem dX6_wantThread_4 : decode cX6_wantThread 4 = .ok (.aload_n 0, 1) := by decide +kernel
theorem dX6_wantThread_5 : decode cX6_wantThread 5 = .ok (.iload_n 1, 1) := by decide +kernel
theorem dX6_wantThread_6 : decode cX6_wantThread 6 = .ok (.invokestatic 186, 3) := by decide +kernel
theorem dX6_wantThread_9 : decode cX6_wantThread 9 = .ok (.ifCond .ne 15, 3) := by decide +kernel
theorem dX6_wantThread_12 : decode cX6_wantThread 12 = .ok (.iload_n 2, 1) := by decide +kernel
theorem dX6_wantThread_13 : decode cX6_wantThread 13 = .ok (.iconst 1, 1) := by decide +kernel
theorem dX6_wantThread_14 : decode cX6_wantThread 14 = .ok (.if_icmp .lt 10, 3) := by decide +kernel
theorem dX6_wantThread_17 : decode cX6_wantThread 17 = .ok (.iload_n 2, 1) := by decide +kernel
theorem dX6_wantThread_18 : decode cX6_wantThread 18 = .ok (.sipush 2000, 3) := by decide +kernel
theorem dX6_wantThread_21 : decode cX6_wantThread 21 = .ok (.if_icmp .le 7, 3) := by decide +kernel
theorem dX6_wantThread_24 : decode cX6_wantThread 24 = .ok (.iconst 1, 1) := by decide +kernel
theorem dX6_wantThread_25 : decode cX6_wantThread 25 = .ok (.goto 4, 3) := by decide +kernel
theorem dX6_wantThread_28 : decode cX6_wantThread 28 = .ok (.iconst 0, 1) := by decide +kernel
theorem dX6_wantThread_29 : decode cX6_wantThread 29 = .ok (.iconst 1, 1) := by decide +kernel
theorem dX6_wantThread_30 : decode cX6_wantThread 30 = .ok (.invokevirtual 193, 3) := by decide +kernel
theorem dX6_wantThread_33 : decode cX6_wantThread 33 = .ok (.aload_n 0, 1) := by decide +kernel
theorem dX6_wantThread_34 : decode cX6_wantThread 34 = .ok (.aload_n 0, 1) := by decide +kernel
theorem dX6_wantThread_35 : decode cX6_wantThread 35 = .ok (.iload_n 1, 1) := by decide +kernel
theorem dX6_wantThread_36 : decode cX6_wantThread 36 = .ok (.iconst 2, 1) := by decide +kernel
theorem dX6_wantThread_37 : decode cX6_wantThread 37 = .ok (.invokevirtual 189, 3) := by decide +kernel
theorem dX6_wantThread_40 : decode cX6_wantThread 40 = .ok (.ifCond .ne 7, 3) := by decide +kernel
theorem dX6_wantThread_43 : decode cX6_wantThread 43 = .ok (.iconst 1, 1) := by decide +kernel
theorem dX6_wantThread_44 : decode cX6_wantThread 44 = .ok (.goto 4, 3) := by decide +kernel
theorem dX6_wantThread_47 : decode cX6_wantThread 47 = .ok (.iconst 0, 1) := by decide +kernel
theorem dX6_wantThread_48 : decode cX6_wantThread 48 = .ok (.iconst 3, 1) := by decide +kernel
theorem dX6_wantThread_49 : decode cX6_wantThread 49 = .ok (.invokevirtual 193, 3) := by decide +kernel
theorem dX6_wantThread_52 : decode cX6_wantThread 52 = .ok (.aload_n 0, 1) := by decide +kernel
theorem dX6_wantThread_53 : decode cX6_wantThread 53 = .ok (.aload_n 0, 1) := by decide +kernel
theorem dX6_wantThread_54 : decode cX6_wantThread 54 = .ok (.getfield 183, 3) := by decide +kernel
theorem dX6_wantThread_57 : decode cX6_wantThread 57 = .ok (.ifCond .ne 22, 3) := by decide +kernel
theorem dX6_wantThread_60 : decode cX6_wantThread 60 = .ok (.aload_n 0, 1) := by decide +kernel
theorem dX6_wantThread_61 : decode cX6_wantThread 61 = .ok (.getfield 22, 3) := by decide +kernel
theorem dX6_wantThread_64 : decode cX6_wantThread 64 = .ok (.aload_n 0, 1) := by decide +kernel
theorem dX6_wantThread_65 : decode cX6_wantThread 65 = .ok (.getfield 19, 3) := by decide +kernel
theorem dX6_wantThread_68 : decode cX6_wantThread 68 = .ok (.iload_n 1, 1) := by decide +kernel
theorem dX6_wantThread_69 : decode cX6_wantThread 69 = .ok (.iaload, 1) := by decide +kernel
theorem dX6_wantThread_70 : decode cX6_wantThread 70 = .ok (.iaload, 1) := by decide +kernel
theorem dX6_wantThread_71 : decode cX6_wantThread 71 = .ok (.iconst 1, 1) := by decide +kernel
theorem dX6_wantThread_72 : decode cX6_wantThread 72 = .ok (.if_icmp .eq 7, 3) := by decide +kernel
theorem dX6_wantThread_75 : decode cX6_wantThread 75 = .ok (.iconst 1, 1) := by decide +kernel
theorem dX6_wantThread_76 : decode cX6_wantThread 76 = .ok (.goto 4, 3) := by decide +kernel
theorem dX6_wantThread_79 : decode cX6_wantThread 79 = .ok (.iconst 0, 1) := by decide +kernel
theorem dX6_wantThread_80 : decode cX6_wantThread 80 = .ok (.iconst 4, 1) := by decide +kernel
theorem dX6_wantThread_81 : decode cX6_wantThread 81 = .ok (.invokevirtual 193, 3) := by decide +kernel
theorem dX6_wantThread_84 : decode cX6_wantThread 84 = .ok (.aload_n 0, 1) := by decide +kernel
theorem dX6_wantThread_85 : decode cX6_wantThread 85 = .ok (.aload_n 0, 1) := by decide +kernel

theorem dX5_data_74 : decode cX5_data 74 = .ok (.invokevirtual 108, 3) := by decide +kernel
theorem dX5_data_77 : decode cX5_data 77 = .ok (.ifCond .ne 5, 3) := by decide +kernel
theorem dX5_data_80 : decode cX5_data 80 = .ok (.iconst 5, 1) := by decide +kernel
theorem dX5_data_81 : decode cX5_data 81 = .ok (.ireturn, 1) := by decide +kernel
theorem dX5_data_82 : decode cX5_data 82 = .ok (.aload_n 0, 1) := by decide +kernel
theorem dX5_data_83 : decode cX5_data 83 = .ok (.getfield 20, 3) := by decide +kernel
theorem dX5_data_86 : decode cX5_data 86 = .ok (.iload_n 1, 1) := by decide +kernel
theorem dX5_data_87 : decode cX5_data 87 = .ok (.iconst 4, 1) := by decide +kernel
theorem dX5_data_88 : decode cX5_data 88 = .ok (.iload_n 2, 1) := by decide +kernel
theorem dX5_data_89 : decode cX5_data 89 = .ok (.invokevirtual 35, 3) := by decide +kernel
theorem dX5_data_92 : decode cX5_data 92 = .ok (.pop, 1) := by decide +kernel
theorem dX5_data_93 : decode cX5_data 93 = .ok (.aload_n 0, 1) := by decide +kernel
theorem dX5_data_94 : decode cX5_data 94 = .ok (.getfield 20, 3) := by decide +kernel
theorem dX5_data_97 : decode cX5_data 97 = .ok (.getfield 112, 3) := by decide +kernel
theorem dX5_data_100 : decode cX5_data 100 = .ok (.iload_n 1, 1) := by decide +kernel
theorem dX5_data_101 : decode cX5_data 101 = .ok (.aaload, 1) := by decide +kernel
theorem dX5_data_102 : decode cX5_data 102 = .ok (.astore 8, 2) := by decide +kernel
theorem dX5_data_104 : decode cX5_data 104 = .ok (.aload_n 0, 1) := by decide +kernel
theorem dX5_data_105 : decode cX5_data 105 = .ok (.getfield 20, 3) := by decide +kernel
theorem dX5_data_108 : decode cX5_data 108 = .ok (.iload 5, 2) := by decide +kernel
theorem dX5_data_110 : decode cX5_data 110 = .ok (.invokevirtual 52, 3) := by decide +kernel
theorem dX5_data_113 : decode cX5_data 113 = .ok (.iconst 0, 1) := by decide +kernel
theorem dX5_data_114 : decode cX5_data 114 = .ok (.aload 8, 2) := by decide +kernel
theorem dX5_data_116 : decode cX5_data 116 = .ok (.iconst 0, 1) := by decide +kernel
theorem dX5_data_117 : decode cX5_data 117 = .ok (.bipush 16, 2) := by decide +kernel
theorem dX5_data_119 : decode cX5_data 119 = .ok (.invokestatic 116, 3) := by decide +kernel
theorem dX5_data_122 : decode cX5_data 122 = .ok (.aload_n 0, 1) := by decide +kernel
theorem dX5_data_123 : decode cX5_data 123 = .ok (.getfield 20, 3) := by decide +kernel
theorem dX5_data_126 : decode cX5_data 126 = .ok (.aload 7, 2) := by decide +kernel
theorem dX5_data_128 : decode cX5_data 128 = .ok (.iload_n 3, 1) := by decide +kernel
theorem dX5_data_129 : decode cX5_data 129 = .ok (.iload_n 1, 1) := by decide +kernel
theorem dX5_data_130 : decode cX5_data 130 = .ok (.iload 4, 2) := by decide +kernel
theorem dX5_data_132 : decode cX5_data 132 = .ok (.invokevirtual 122, 3) := by decide +kernel
theorem dX5_data_135 : decode cX5_data 135 = .ok (.aload_n 0, 1) := by decide +kernel
theorem dX5_data_136 : decode cX5_data 136 = .ok (.getfield 25, 3) := by decide +kernel
theorem dX5_data_139 : decode cX5_data 139 = .ok (.aload 7, 2) := by decide +kernel
theorem dX5_data_141 : decode cX5_data 141 = .ok (.iconst 2, 1) := by decide +kernel
theorem dX5_data_142 : decode cX5_data 142 = .ok (.iload_n 3, 1) := by decide +kernel
theorem dX5_data_143 : decode cX5_data 143 = .ok (.iload 4, 2) := by decide +kernel
theorem dX5_data_145 : decode cX5_data 145 = .ok (.invokevirtual 95, 3) := by decide +kernel
theorem dX5_data_148 : decode cX5_data 148 = .ok (.aload_n 0, 1) := by decide +kernel
theorem dX5_data_149 : decode cX5_data 149 = .ok (.getfield 25, 3) := by decide +kernel
theorem dX5_data_152 : decode cX5_data 152 = .ok (.aload 7, 2) := by decide +kernel
theorem dX5_data_154 : decode cX5_data 154 = .ok (.aload 8, 2) := by decide +kernel
theorem dX5_data_156 : decode cX5_data 156 = .ok (.invokevirtual 125, 3) := by decide +kernel
theorem dX5_data_159 : decode cX5_data 159 = .ok (.iconst 0, 1) := by decide +kernel
theorem dX5_data_160 : decode cX5_data 160 = .ok (.ireturn, 1) := by decide +kernel
set_option maxRecDepth 20000 in
theorem ggX5_share_X5_isPage : GoodIn wsX5_share wsX5_isPage := goodIn_r _ [7] rfl (by decide +kernel)
set_option maxRecDepth 20000 in
theorem gX5_share_X5_isPage : GoodIn wsX5_share (va_wsS RX5 56 yX5_isPage wsX5_isPage) := goodIn_app (goodIn_of _ (by decide +kernel)) ggX5_share_X5_isPage
set_option maxRecDepth 20000 in
theorem ggX5_share_X5_isBlock : GoodIn wsX5_share wsX5_isBlock := goodIn_r _ [10] rfl (by decide +kernel)
set_option maxRecDepth 20000 in
theorem gX5_share_X5_isBlock : GoodIn wsX5_share (va_wsS RX5 102 yX5_isBlock wsX5_isBlock) := goodIn_app (goodIn_of _ (by decide +kernel)) ggX5_share_X5_isBlock
set_option maxRecDepth 20000 in
theorem ggX5_share_X5_isFrame : GoodIn wsX5_share wsX5_isFrame := goodIn_r _ [13] rfl (by decide +kernel)
set_option maxRecDepth 20000 in
theorem gX5_share_X5_isFrame : GoodIn wsX5_share (va_wsS RX5 45 yX5_isFrame wsX5_isFrame) := goodIn_app (goodIn_of _ (by decide +kernel)) ggX5_share_X5_isFrame
set_option maxRecDepth 20000 in
theorem ggX5_share_X5_refusalOfSpace : GoodIn wsX5_share wsX5_refusalOfSpace := goodIn_r _ [17, 1, 2, 18, 19, 68, 69, 70, 71, 72, 73, 74, 75, 76, 77, 78, 79, 80, 81, 82, 83, 84] rfl (by decide +kernel)
set_option maxRecDepth 20000 in
theorem gX5_share_X5_refusalOfSpace : GoodIn wsX5_share (wsV RX5 129 RX5 yX5_refusalOfSpace wsX5_refusalOfSpace) := goodIn_app (goodIn_of _ (by decide +kernel)) ggX5_share_X5_refusalOfSpace
set_option maxRecDepth 20000 in
theorem ggX5_share_X4_hasRoom : GoodIn wsX5_share wsX4_hasRoom := goodIn_r _ [24, 25, 26, 27, 23, 28, 29, 30, 31, 9, 6, 10, 73, 74, 75, 76, 77, 78, 79, 80, 81, 82, 83, 84, 71, 72] rfl (by decide +kernel)
set_option maxRecDepth 20000 in
theorem gX5_share_X4_hasRoom : GoodIn wsX5_share (wsV RX5 108 RX4 yX4_hasRoom wsX4_hasRoom) := goodIn_app (goodIn_of _ (by decide +kernel)) ggX5_share_X4_hasRoom
set_option maxRecDepth 20000 in
theorem ggX5_share_X4_map : GoodIn wsX5_share wsX4_map := goodIn_r _ [35, 25, 26, 27, 23, 28, 29, 30, 31, 9, 6, 10, 73, 74, 75, 76, 77, 78, 79, 80, 81, 82, 83, 84, 71, 72] rfl (by decide +kernel)
set_option maxRecDepth 20000 in
theorem gX5_share_X4_map : GoodIn wsX5_share (wsV RX5 122 RX4 yX4_map wsX4_map) := goodIn_app (goodIn_of _ (by decide +kernel)) ggX5_share_X4_map
set_option maxRecDepth 20000 in
theorem ggX5_share_X2_tell : GoodIn wsX5_share wsX2_tell := goodIn_r _ [40, 41, 42, 43, 44, 45, 46, 47, 48, 39, 49, 50, 51, 52, 53, 54, 55, 56, 57, 58, 59, 60, 61, 62, 63, 64, 65, 66, 67, 85, 86, 87, 73, 74, 75, 76, 77, 78, 79, 80, 81, 82, 83, 84, 88, 89] rfl (by decide +kernel)
set_option maxRecDepth 20000 in
theorem gX5_share_X2_tell : GoodIn wsX5_share (wsV RX5 95 RX2 yX2_tell wsX2_tell) := goodIn_app (goodIn_of _ (by decide +kernel)) ggX5_share_X2_tell
theorem dX5_share_0 : decode cX5_share 0 = .ok (.iload_n 1, 1) := by decide +kernel
theorem dX5_share_1 : decode cX5_share 1 = .ok (.invokestatic 56, 3) := by decide +kernel
theorem dX5_share_4 : decode cX5_share 4 = .ok (.ifCond .eq 28, 3) := by decide +kernel
theorem dX5_share_7 : decode cX5_share 7 = .ok (.iload_n 2, 1) := by decide +kernel
theorem dX5_share_8 : decode cX5_share 8 = .ok (.invokestatic 102, 3) := by decide +kernel
theorem dX5_share_11 : decode cX5_share 11 = .ok (.ifCond .eq 21, 3) := by decide +kernel
theorem dX5_share_14 : decode cX5_share 14 = .ok (.iload 4, 2) := by decide +kernel
theorem dX5_share_16 : decode cX5_share 16 = .ok (.invokestatic 45, 3) := by decide +kernel
theorem dX5_share_19 : decode cX5_share 19 = .ok (.ifCond .eq 13, 3) := by decide +kernel
theorem dX5_share_22 : decode cX5_share 22 = .ok (.iload_n 3, 1) := by decide +kernel
theorem dX5_share_23 : decode cX5_share 23 = .ok (.iconst 1, 1) := by decide +kernel
theorem dX5_share_24 : decode cX5_share 24 = .ok (.if_icmp .eq 10, 3) := by decide +kernel
theorem dX5_share_27 : decode cX5_share 27 = .ok (.iload_n 3, 1) := by decide +kernel
theorem dX5_share_28 : decode cX5_share 28 = .ok (.iconst 3, 1) := by decide +kernel
theorem dX5_share_29 : decode cX5_share 29 = .ok (.if_icmp .eq 5, 3) := by decide +kernel
theorem dX5_share_32 : decode cX5_share 32 = .ok (.iconst 1, 1) := by decide +kernel
theorem dX5_share_33 : decode cX5_share 33 = .ok (.ireturn, 1) := by decide +kernel
theorem dX5_share_34 : decode cX5_share 34 = .ok (.aload_n 0, 1) := by decide +kernel
theorem dX5_share_35 : decode cX5_share 35 = .ok (.iload_n 1, 1) := by decide +kernel
theorem dX5_share_36 : decode cX5_share 36 = .ok (.iconst 0, 1) := by decide +kernel
theorem dX5_share_37 : decode cX5_share 37 = .ok (.invokevirtual 129, 3) := by decide +kernel
theorem dX5_share_40 : decode cX5_share 40 = .ok (.istore 5, 2) := by decide +kernel
theorem dX5_share_42 : decode cX5_share 42 = .ok (.iload 5, 2) := by decide +kernel
theorem dX5_share_44 : decode cX5_share 44 = .ok (.ifCond .eq 6, 3) := by decide +kernel
theorem dX5_share_47 : decode cX5_share 47 = .ok (.iload 5, 2) := by decide +kernel
theorem dX5_share_49 : decode cX5_share 49 = .ok (.ireturn, 1) := by decide +kernel
theorem dX5_share_50 : decode cX5_share 50 = .ok (.aload_n 0, 1) := by decide +kernel
theorem dX5_share_51 : decode cX5_share 51 = .ok (.getfield 20, 3) := by decide +kernel
theorem dX5_share_54 : decode cX5_share 54 = .ok (.getfield 59, 3) := by decide +kernel
theorem dX5_share_57 : decode cX5_share 57 = .ok (.iload_n 1, 1) := by decide +kernel
theorem dX5_share_58 : decode cX5_share 58 = .ok (.aaload, 1) := by decide +kernel
theorem dX5_share_59 : decode cX5_share 59 = .ok (.astore 6, 2) := by decide +kernel
theorem dX5_share_61 : decode cX5_share 61 = .ok (.aload_n 0, 1) := by decide +kernel
theorem dX5_share_62 : decode cX5_share 62 = .ok (.getfield 20, 3) := by decide +kernel
theorem dX5_share_65 : decode cX5_share 65 = .ok (.aload 6, 2) := by decide +kernel
theorem dX5_share_67 : decode cX5_share 67 = .ok (.iload_n 2, 1) := by decide +kernel
theorem dX5_share_68 : decode cX5_share 68 = .ok (.invokevirtual 108, 3) := by decide +kernel
theorem dX5_share_71 : decode cX5_share 71 = .ok (.ifCond .ne 5, 3) := by decide +kernel
theorem dX5_share_74 : decode cX5_share 74 = .ok (.iconst 5, 1) := by decide +kernel
theorem dX5_share_75 : decode cX5_share 75 = .ok (.ireturn, 1) := by decide +kernel
theorem dX5_share_76 : decode cX5_share 76 = .ok (.aload_n 0, 1) := by decide +kernel
theorem dX5_share_77 : decode cX5_share 77 = .ok (.getfield 20, 3) := by decide +kernel
theorem dX5_share_80 : decode cX5_share 80 = .ok (.aload 6, 2) := by decide +kernel
theorem dX5_share_82 : decode cX5_share 82 = .ok (.iload_n 2, 1) := by decide +kernel
theorem dX5_share_83 : decode cX5_share 83 = .ok (.bipush 20, 2) := by decide +kernel
theorem dX5_share_85 : decode cX5_share 85 = .ok (.iload 4, 2) := by decide +kernel
theorem dX5_share_87 : decode cX5_share 87 = .ok (.iadd, 1) := by decide +kernel
theorem dX5_share_88 : decode cX5_share 88 = .ok (.iload_n 3, 1) := by decide +kernel
theorem dX5_share_89 : decode cX5_share 89 = .ok (.invokevirtual 122, 3) := by decide +kernel
theorem dX5_share_92 : decode cX5_share 92 = .ok (.aload_n 0, 1) := by decide +kernel
theorem dX5_share_93 : decode cX5_share 93 = .ok (.getfield 25, 3) := by decide +kernel
theorem dX5_share_96 : decode cX5_share 96 = .ok (.aload 6, 2) := by decide +kernel
theorem dX5_share_98 : decode cX5_share 98 = .ok (.iconst 3, 1) := by decide +kernel
theorem dX5_share_99 : decode cX5_share 99 = .ok (.iload_n 2, 1) := by decide +kernel
theorem dX5_share_100 : decode cX5_share 100 = .ok (.iload_n 3, 1) := by decide +kernel
theorem dX5_share_101 : decode cX5_share 101 = .ok (.invokevirtual 95, 3) := by decide +kernel
theorem dX5_share_104 : decode cX5_share 104 = .ok (.iconst 0, 1) := by decide +kernel
theorem dX5_share_105 : decode cX5_share 105 = .ok (.ireturn, 1) := by decide +kernel
set_option maxRecDepth 20000 in
theorem ggX5_spare_X5_isPage : GoodIn wsX5_spare wsX5_isPage := goodIn_r _ [5] rfl (by decide +kernel)
set_option maxRecDepth 20000 in
theorem gX5_spare_X5_isPage : GoodIn wsX5_spare (va_wsS RX5 56 yX5_isPage wsX5_isPage) := goodIn_app (goodIn_of _ (by decide +kernel)) ggX5_spare_X5_isPage
set_option maxRecDepth 20000 in
theorem ggX5_spare_X5_refusalOfNew : GoodIn wsX5_spare wsX5_refusalOfNew := goodIn_r _ [9, 1, 10, 11, 12, 13, 14, 4, 15, 16, 25, 26, 27, 28, 29, 30, 31, 32, 33, 34, 35, 36, 37, 38, 39, 40, 41] rfl (by decide +kernel)
set_option maxRecDepth 20000 in
theorem gX5_spare_X5_refusalOfNew : GoodIn wsX5_spare (wsV RX5 84 RX5 yX5_refusalOfNew wsX5_refusalOfNew) := goodIn_app (goodIn_of _ (by decide +kernel)) ggX5_spare_X5_refusalOfNew
set_option maxRecDepth 20000 in
theorem ggX5_spare_X4_claim : GoodIn wsX5_spare wsX4_claim := goodIn_r _ [21, 22, 23, 24, 28, 29, 30, 31, 32, 33, 34, 35, 36, 37, 38, 39, 40, 41] rfl (by decide +kernel)
set_option maxRecDepth 20000 in
theorem gX5_spare_X4_claim : GoodIn wsX5_spare (wsV RX5 35 RX4 yX4_claim wsX4_claim) := goodIn_app (goodIn_of _ (by decide +kernel)) ggX5_spare_X4_claim
theorem dX5_spare_0 : decode cX5_spare 0 = .ok (.iload_n 1, 1) := by decide +kernel
theorem dX5_spare_1 : decode cX5_spare 1 = .ok (.invokestatic 56, 3) := by decide +kernel
theorem dX5_spare_4 : decode cX5_spare 4 = .ok (.ifCond .eq 10, 3) := by decide +kernel
theorem dX5_spare_7 : decode cX5_spare 7 = .ok (.iload_n 2, 1) := by decide +kernel
theorem dX5_spare_8 : decode cX5_spare 8 = .ok (.invokestatic 56, 3) := by decide +kernel
theorem dX5_spare_11 : decode cX5_spare 11 = .ok (.ifCond .ne 5, 3) := by decide +kernel
theorem dX5_spare_14 : decode cX5_spare 14 = .ok (.iconst 1, 1) := by decide +kernel
theorem dX5_spare_15 : decode cX5_spare 15 = .ok (.ireturn, 1) := by decide +kernel
theorem dX5_spare_16 : decode cX5_spare 16 = .ok (.aload_n 0, 1) := by decide +kernel
theorem dX5_spare_17 : decode cX5_spare 17 = .ok (.iload_n 1, 1) := by decide +kernel
theorem dX5_spare_18 : decode cX5_spare 18 = .ok (.iload_n 2, 1) := by decide +kernel
theorem dX5_spare_19 : decode cX5_spare 19 = .ok (.iconst 1, 1) := by decide +kernel
theorem dX5_spare_20 : decode cX5_spare 20 = .ok (.invokevirtual 84, 3) := by decide +kernel
theorem dX5_spare_23 : decode cX5_spare 23 = .ok (.istore_n 3, 1) := by decide +kernel
theorem dX5_spare_24 : decode cX5_spare 24 = .ok (.iload_n 3, 1) := by decide +kernel
theorem dX5_spare_25 : decode cX5_spare 25 = .ok (.ifCond .eq 5, 3) := by decide +kernel
theorem dX5_spare_28 : decode cX5_spare 28 = .ok (.iload_n 3, 1) := by decide +kernel
theorem dX5_spare_29 : decode cX5_spare 29 = .ok (.ireturn, 1) := by decide +kernel
theorem dX5_spare_30 : decode cX5_spare 30 = .ok (.aload_n 0, 1) := by decide +kernel
theorem dX5_spare_31 : decode cX5_spare 31 = .ok (.getfield 20, 3) := by decide +kernel
theorem dX5_spare_34 : decode cX5_spare 34 = .ok (.iload_n 1, 1) := by decide +kernel
theorem dX5_spare_35 : decode cX5_spare 35 = .ok (.iconst 5, 1) := by decide +kernel
theorem dX5_spare_36 : decode cX5_spare 36 = .ok (.iload_n 2, 1) := by decide +kernel
theorem dX5_spare_37 : decode cX5_spare 37 = .ok (.invokevirtual 35, 3) := by decide +kernel
theorem dX5_spare_40 : decode cX5_spare 40 = .ok (.pop, 1) := by decide +kernel
theorem dX5_spare_41 : decode cX5_spare 41 = .ok (.iconst 0, 1) := by decide +kernel
theorem dX5_spare_42 : decode cX5_spare 42 = .ok (.ireturn, 1) := by decide +kernel
set_option maxRecDepth 20000 in
theorem ggX5_finish_X5_isPage : GoodIn wsX5_finish wsX5_isPage := goodIn_r _ [8] rfl (by decide +kernel)
set_option maxRecDepth 20000 in
theorem gX5_finish_X5_isPage : GoodIn wsX5_finish (va_wsS RX5 56 yX5_isPage wsX5_isPage) := goodIn_app (goodIn_of _ (by decide +kernel)) ggX5_finish_X5_isPage
set_option maxRecDepth 20000 in
theorem ggX5_finish_X5_refusalOfSpace : GoodIn wsX5_finish wsX5_refusalOfSpace := goodIn_r _ [12, 1, 2, 13, 3, 57, 58, 59, 60, 61, 62, 63, 64, 65, 66, 67, 68, 69, 70, 71, 72, 73] rfl (by decide +kernel)
set_option maxRecDepth 20000 in
theorem gX5_finish_X5_refusalOfSpace : GoodIn wsX5_finish (wsV RX5 129 RX5 yX5_refusalOfSpace wsX5_refusalOfSpace) := goodIn_app (goodIn_of _ (by decide +kernel)) ggX5_finish_X5_refusalOfSpace
set_option maxRecDepth 20000 in
theorem ggX5_finish_X2_seal : GoodIn wsX5_finish wsX2_seal := goodIn_r _ [18, 19, 20, 21, 22, 23, 24, 25, 17, 26, 27, 28, 29, 30, 31, 32, 33, 34, 35, 36, 37, 38, 39, 40, 41, 42, 43, 44, 45, 46, 47, 48, 49, 50, 51, 52, 53, 54, 55, 56, 74, 75, 76, 62, 63, 64, 65, 66, 67, 68, 69, 70, 71, 72, 73, 77, 78] rfl (by decide +kernel)
set_option maxRecDepth 20000 in
theorem gX5_finish_X2_seal : GoodIn wsX5_finish (wsV RX5 133 RX2 yX2_seal wsX2_seal) := goodIn_app (goodIn_of _ (by decide +kernel)) ggX5_finish_X2_seal
theorem dX5_finish_0 : decode cX5_finish 0 = .ok (.iload_n 1, 1) := by decide +kernel
theorem dX5_finish_1 : decode cX5_finish 1 = .ok (.invokestatic 56, 3) := by decide +kernel
theorem dX5_finish_4 : decode cX5_finish 4 = .ok (.ifCond .ne 5, 3) := by decide +kernel
theorem dX5_finish_7 : decode cX5_finish 7 = .ok (.iconst 1, 1) := by decide +kernel
theorem dX5_finish_8 : decode cX5_finish 8 = .ok (.ireturn, 1) := by decide +kernel
theorem dX5_finish_9 : decode cX5_finish 9 = .ok (.aload_n 0, 1) := by decide +kernel
theorem dX5_finish_10 : decode cX5_finish 10 = .ok (.iload_n 1, 1) := by decide +kernel
theorem dX5_finish_11 : decode cX5_finish 11 = .ok (.iconst 0, 1) := by decide +kernel
theorem dX5_finish_12 : decode cX5_finish 12 = .ok (.invokevirtual 129, 3) := by decide +kernel
theorem dX5_finish_15 : decode cX5_finish 15 = .ok (.istore_n 2, 1) := by decide +kernel
theorem dX5_finish_16 : decode cX5_finish 16 = .ok (.iload_n 2, 1) := by decide +kernel
theorem dX5_finish_17 : decode cX5_finish 17 = .ok (.ifCond .eq 5, 3) := by decide +kernel
theorem dX5_finish_20 : decode cX5_finish 20 = .ok (.iload_n 2, 1) := by decide +kernel
theorem dX5_finish_21 : decode cX5_finish 21 = .ok (.ireturn, 1) := by decide +kernel
theorem dX5_finish_22 : decode cX5_finish 22 = .ok (.aload_n 0, 1) := by decide +kernel
theorem dX5_finish_23 : decode cX5_finish 23 = .ok (.getfield 20, 3) := by decide +kernel
theorem dX5_finish_26 : decode cX5_finish 26 = .ok (.getfield 59, 3) := by decide +kernel
theorem dX5_finish_29 : decode cX5_finish 29 = .ok (.iload_n 1, 1) := by decide +kernel
theorem dX5_finish_30 : decode cX5_finish 30 = .ok (.aaload, 1) := by decide +kernel
theorem dX5_finish_31 : decode cX5_finish 31 = .ok (.iconst 1, 1) := by decide +kernel
theorem dX5_finish_32 : decode cX5_finish 32 = .ok (.putfield 68, 3) := by decide +kernel
theorem dX5_finish_35 : decode cX5_finish 35 = .ok (.aload_n 0, 1) := by decide +kernel
theorem dX5_finish_36 : decode cX5_finish 36 = .ok (.getfield 25, 3) := by decide +kernel
theorem dX5_finish_39 : decode cX5_finish 39 = .ok (.aload_n 0, 1) := by decide +kernel
theorem dX5_finish_40 : decode cX5_finish 40 = .ok (.getfield 20, 3) := by decide +kernel
theorem dX5_finish_43 : decode cX5_finish 43 = .ok (.getfield 59, 3) := by decide +kernel
theorem dX5_finish_46 : decode cX5_finish 46 = .ok (.iload_n 1, 1) := by decide +kernel
theorem dX5_finish_47 : decode cX5_finish 47 = .ok (.aaload, 1) := by decide +kernel
theorem dX5_finish_48 : decode cX5_finish 48 = .ok (.invokevirtual 133, 3) := by decide +kernel
theorem dX5_finish_51 : decode cX5_finish 51 = .ok (.iconst 0, 1) := by decide +kernel
theorem dX5_finish_52 : decode cX5_finish 52 = .ok (.ireturn, 1) := by decide +kernel
set_option maxRecDepth 20000 in
theorem ggX5_stop_X5_isPage : GoodIn wsX5_stop wsX5_isPage := goodIn_r _ [9] rfl (by decide +kernel)
set_option maxRecDepth 20000 in
theorem gX5_stop_X5_isPage : GoodIn wsX5_stop (va_wsS RX5 56 yX5_isPage wsX5_isPage) := goodIn_app (goodIn_of _ (by decide +kernel)) ggX5_stop_X5_isPage
set_option maxRecDepth 20000 in
theorem ggX5_stop_X5_refusalOfSpace : GoodIn wsX5_stop wsX5_refusalOfSpace := goodIn_r _ [13, 1, 2, 14, 3, 15, 16, 17, 18, 19, 20, 21, 22, 23, 24, 25, 26, 27, 28, 29, 30, 31] rfl (by decide +kernel)
set_option maxRecDepth 20000 in
theorem gX5_stop_X5_refusalOfSpace : GoodIn wsX5_stop (wsV RX5 129 RX5 yX5_refusalOfSpace wsX5_refusalOfSpace) := goodIn_app (goodIn_of _ (by decide +kernel)) ggX5_stop_X5_refusalOfSpace
theorem dX5_stop_0 : decode cX5_stop 0 = .ok (.iload_n 1, 1) := by decide +kernel
theorem dX5_stop_1 : decode cX5_stop 1 = .ok (.invokestatic 56, 3) := by decide +kernel
theorem dX5_stop_4 : decode cX5_stop 4 = .ok (.ifCond .ne 5, 3) := by decide +kernel
theorem dX5_stop_7 : decode cX5_stop 7 = .ok (.iconst 1, 1) := by decide +kernel
theorem dX5_stop_8 : decode cX5_stop 8 = .ok (.ireturn, 1) := by decide +kernel
theorem dX5_stop_9 : decode cX5_stop 9 = .ok (.aload_n 0, 1) := by decide +kernel
theorem dX5_stop_10 : decode cX5_stop 10 = .ok (.iload_n 1, 1) := by decide +kernel
theorem dX5_stop_11 : decode cX5_stop 11 = .ok (.iconst 1, 1) := by decide +kernel
theorem dX5_stop_12 : decode cX5_stop 12 = .ok (.invokevirtual 129, 3) := by decide +kernel
theorem dX5_stop_15 : decode cX5_stop 15 = .ok (.istore_n 2, 1) := by decide +kernel
theorem dX5_stop_16 : decode cX5_stop 16 = .ok (.iload_n 2, 1) := by decide +kernel
theorem dX5_stop_17 : decode cX5_stop 17 = .ok (.ifCond .eq 5, 3) := by decide +kernel
theorem dX5_stop_20 : decode cX5_stop 20 = .ok (.iload_n 2, 1) := by decide +kernel
theorem dX5_stop_21 : decode cX5_stop 21 = .ok (.ireturn, 1) := by decide +kernel
theorem dX5_stop_22 : decode cX5_stop 22 = .ok (.aload_n 0, 1) := by decide +kernel
theorem dX5_stop_23 : decode cX5_stop 23 = .ok (.getfield 20, 3) := by decide +kernel
theorem dX5_stop_26 : decode cX5_stop 26 = .ok (.getfield 59, 3) := by decide +kernel
theorem dX5_stop_29 : decode cX5_stop 29 = .ok (.iload_n 1, 1) := by decide +kernel
theorem dX5_stop_30 : decode cX5_stop 30 = .ok (.aaload, 1) := by decide +kernel
theorem dX5_stop_31 : decode cX5_stop 31 = .ok (.iconst 2, 1) := by decide +kernel
theorem dX5_stop_32 : decode cX5_stop 32 = .ok (.putfield 68, 3) := by decide +kernel
theorem dX5_stop_35 : decode cX5_stop 35 = .ok (.iconst 0, 1) := by decide +kernel
theorem dX5_stop_36 : decode cX5_stop 36 = .ok (.istore_n 3, 1) := by decide +kernel
theorem dX5_stop_37 : decode cX5_stop 37 = .ok (.iload_n 3, 1) := by decide +kernel
theorem dX5_stop_38 : decode cX5_stop 38 = .ok (.bipush 20, 2) := by decide +kernel
theorem dX5_stop_40 : decode cX5_stop 40 = .ok (.if_icmp .ge 38, 3) := by decide +kernel
theorem dX5_stop_43 : decode cX5_stop 43 = .ok (.aload_n 0, 1) := by decide +kernel
theorem dX5_stop_44 : decode cX5_stop 44 = .ok (.getfield 20, 3) := by decide +kernel
theorem dX5_stop_47 : decode cX5_stop 47 = .ok (.getfield 59, 3) := by decide +kernel
theorem dX5_stop_50 : decode cX5_stop 50 = .ok (.iload_n 3, 1) := by decide +kernel
theorem dX5_stop_51 : decode cX5_stop 51 = .ok (.aaload, 1) := by decide +kernel
theorem dX5_stop_52 : decode cX5_stop 52 = .ok (.getfield 136, 3) := by decide +kernel
theorem dX5_stop_55 : decode cX5_stop 55 = .ok (.iload_n 1, 1) := by decide +kernel
theorem dX5_stop_56 : decode cX5_stop 56 = .ok (.if_icmp .ne 16, 3) := by decide +kernel
theorem dX5_stop_59 : decode cX5_stop 59 = .ok (.aload_n 0, 1) := by decide +kernel
theorem dX5_stop_60 : decode cX5_stop 60 = .ok (.getfield 20, 3) := by decide +kernel
theorem dX5_stop_63 : decode cX5_stop 63 = .ok (.getfield 59, 3) := by decide +kernel
theorem dX5_stop_66 : decode cX5_stop 66 = .ok (.iload_n 3, 1) := by decide +kernel
theorem dX5_stop_67 : decode cX5_stop 67 = .ok (.aaload, 1) := by decide +kernel
theorem dX5_stop_68 : decode cX5_stop 68 = .ok (.iconst 0, 1) := by decide +kernel
theorem dX5_stop_69 : decode cX5_stop 69 = .ok (.putfield 91, 3) := by decide +kernel
theorem dX5_stop_72 : decode cX5_stop 72 = .ok (.iinc 3 1, 3) := by decide +kernel
theorem dX5_stop_75 : decode cX5_stop 75 = .ok (.goto (-38), 3) := by decide +kernel
theorem dX5_stop_78 : decode cX5_stop 78 = .ok (.iconst 0, 1) := by decide +kernel
theorem dX5_stop_79 : decode cX5_stop 79 = .ok (.ireturn, 1) := by decide +kernel
set_option maxRecDepth 20000 in
theorem ggX5_remove_X5_isPage : GoodIn wsX5_remove wsX5_isPage := goodIn_r _ [8] rfl (by decide +kernel)
set_option maxRecDepth 20000 in
theorem gX5_remove_X5_isPage : GoodIn wsX5_remove (va_wsS RX5 56 yX5_isPage wsX5_isPage) := goodIn_app (goodIn_of _ (by decide +kernel)) ggX5_remove_X5_isPage
set_option maxRecDepth 20000 in
theorem ggX5_remove_X5_homeOf : GoodIn wsX5_remove wsX5_homeOf := goodIn_r _ [12, 3, 1, 2, 13, 31, 32, 33, 34, 35, 36, 37, 38, 39, 40, 41, 42, 26, 27, 28, 29, 30] rfl (by decide +kernel)
set_option maxRecDepth 20000 in
theorem gX5_remove_X5_homeOf : GoodIn wsX5_remove (wsV RX5 139 RX5 yX5_homeOf wsX5_homeOf) := goodIn_app (goodIn_of _ (by decide +kernel)) ggX5_remove_X5_homeOf
set_option maxRecDepth 20000 in
theorem ggX5_remove_X4_countOwnedBy : GoodIn wsX5_remove wsX4_countOwnedBy := goodIn_r _ [18, 19, 20, 29, 30, 31, 32, 33, 34, 35, 36, 37, 38, 39, 40, 41, 42] rfl (by decide +kernel)
set_option maxRecDepth 20000 in
theorem gX5_remove_X4_countOwnedBy : GoodIn wsX5_remove (wsV RX5 143 RX4 yX4_countOwnedBy wsX4_countOwnedBy) := goodIn_app (goodIn_of _ (by decide +kernel)) ggX5_remove_X4_countOwnedBy
set_option maxRecDepth 20000 in
theorem ggX5_remove_X4_claim : GoodIn wsX5_remove wsX4_claim := goodIn_r _ [24, 19, 25, 20, 29, 30, 31, 32, 33, 34, 35, 36, 37, 38, 39, 40, 41, 42] rfl (by decide +kernel)
set_option maxRecDepth 20000 in
theorem gX5_remove_X4_claim : GoodIn wsX5_remove (wsV RX5 35 RX4 yX4_claim wsX4_claim) := goodIn_app (goodIn_of _ (by decide +kernel)) ggX5_remove_X4_claim
theorem dX5_remove_0 : decode cX5_remove 0 = .ok (.iload_n 1, 1) := by decide +kernel
theorem dX5_remove_1 : decode cX5_remove 1 = .ok (.invokestatic 56, 3) := by decide +kernel
theorem dX5_remove_4 : decode cX5_remove 4 = .ok (.ifCond .ne 5, 3) := by decide +kernel
theorem dX5_remove_7 : decode cX5_remove 7 = .ok (.iconst 1, 1) := by decide +kernel
theorem dX5_remove_8 : decode cX5_remove 8 = .ok (.ireturn, 1) := by decide +kernel
theorem dX5_remove_9 : decode cX5_remove 9 = .ok (.aload_n 0, 1) := by decide +kernel
theorem dX5_remove_10 : decode cX5_remove 10 = .ok (.getfield 20, 3) := by decide +kernel
theorem dX5_remove_13 : decode cX5_remove 13 = .ok (.getfield 59, 3) := by decide +kernel
theorem dX5_remove_16 : decode cX5_remove 16 = .ok (.iload_n 1, 1) := by decide +kernel
theorem dX5_remove_17 : decode cX5_remove 17 = .ok (.aaload, 1) := by decide +kernel
theorem dX5_remove_18 : decode cX5_remove 18 = .ok (.astore_n 2, 1) := by decide +kernel
theorem dX5_remove_19 : decode cX5_remove 19 = .ok (.aload_n 2, 1) := by decide +kernel
theorem dX5_remove_20 : decode cX5_remove 20 = .ok (.getfield 63, 3) := by decide +kernel
theorem dX5_remove_23 : decode cX5_remove 23 = .ok (.ifCond .ne 5, 3) := by decide +kernel
theorem dX5_remove_26 : decode cX5_remove 26 = .ok (.iconst 3, 1) := by decide +kernel
theorem dX5_remove_27 : decode cX5_remove 27 = .ok (.ireturn, 1) := by decide +kernel
theorem dX5_remove_28 : decode cX5_remove 28 = .ok (.aload_n 2, 1) := by decide +kernel
theorem dX5_remove_29 : decode cX5_remove 29 = .ok (.getfield 63, 3) := by decide +kernel
theorem dX5_remove_32 : decode cX5_remove 32 = .ok (.iconst 5, 1) := by decide +kernel
theorem dX5_remove_33 : decode cX5_remove 33 = .ok (.if_icmp .eq 17, 3) := by decide +kernel
theorem dX5_remove_36 : decode cX5_remove 36 = .ok (.aload_n 0, 1) := by decide +kernel
theorem dX5_remove_37 : decode cX5_remove 37 = .ok (.aload_n 2, 1) := by decide +kernel
theorem dX5_remove_38 : decode cX5_remove 38 = .ok (.invokevirtual 139, 3) := by decide +kernel
theorem dX5_remove_41 : decode cX5_remove 41 = .ok (.getfield 68, 3) := by decide +kernel
theorem dX5_remove_44 : decode cX5_remove 44 = .ok (.iconst 2, 1) := by decide +kernel
theorem dX5_remove_45 : decode cX5_remove 45 = .ok (.if_icmp .eq 5, 3) := by decide +kernel
theorem dX5_remove_48 : decode cX5_remove 48 = .ok (.iconst 4, 1) := by decide +kernel
theorem dX5_remove_49 : decode cX5_remove 49 = .ok (.ireturn, 1) := by decide +kernel
theorem dX5_remove_50 : decode cX5_remove 50 = .ok (.aload_n 2, 1) := by decide +kernel
theorem dX5_remove_51 : decode cX5_remove 51 = .ok (.getfield 63, 3) := by decide +kernel
theorem dX5_remove_54 : decode cX5_remove 54 = .ok (.iconst 1, 1) := by decide +kernel
theorem dX5_remove_55 : decode cX5_remove 55 = .ok (.if_icmp .ne 17, 3) := by decide +kernel
theorem dX5_remove_58 : decode cX5_remove 58 = .ok (.aload_n 0, 1) := by decide +kernel
theorem dX5_remove_59 : decode cX5_remove 59 = .ok (.getfield 20, 3) := by decide +kernel
theorem dX5_remove_62 : decode cX5_remove 62 = .ok (.iload_n 1, 1) := by decide +kernel
theorem dX5_remove_63 : decode cX5_remove 63 = .ok (.invokevirtual 143, 3) := by decide +kernel
theorem dX5_remove_66 : decode cX5_remove 66 = .ok (.ifCond .le 6, 3) := by decide +kernel
theorem dX5_remove_69 : decode cX5_remove 69 = .ok (.bipush 7, 2) := by decide +kernel
theorem dX5_remove_71 : decode cX5_remove 71 = .ok (.ireturn, 1) := by decide +kernel
theorem dX5_remove_72 : decode cX5_remove 72 = .ok (.aload_n 0, 1) := by decide +kernel
theorem dX5_remove_73 : decode cX5_remove 73 = .ok (.getfield 20, 3) := by decide +kernel
theorem dX5_remove_76 : decode cX5_remove 76 = .ok (.iload_n 1, 1) := by decide +kernel
theorem dX5_remove_77 : decode cX5_remove 77 = .ok (.iconst 0, 1) := by decide +kernel
theorem dX5_remove_78 : decode cX5_remove 78 = .ok (.iconst (-1), 1) := by decide +kernel
theorem dX5_remove_79 : decode cX5_remove 79 = .ok (.invokevirtual 35, 3) := by decide +kernel
theorem dX5_remove_82 : decode cX5_remove 82 = .ok (.pop, 1) := by decide +kernel
theorem dX5_remove_83 : decode cX5_remove 83 = .ok (.iconst 0, 1) := by decide +kernel
theorem dX5_remove_84 : decode cX5_remove 84 = .ok (.ireturn, 1) := by decide +kernel
set_option maxRecDepth 20000 in
theorem ggX5_enter_X5_refusalOfRun : GoodIn wsX5_enter wsX5_refusalOfRun := goodIn_r _ [11, 1, 2, 12, 13, 14, 15, 16, 10, 17, 18, 19, 20, 21, 22, 146, 147, 148, 149, 150, 151, 152, 153, 154, 155, 156, 157, 158, 159, 160, 161, 162] rfl (by decide +kernel)
set_option maxRecDepth 20000 in
theorem gX5_enter_X5_refusalOfRun : GoodIn wsX5_enter (wsV RX5 147 RX5 yX5_refusalOfRun wsX5_refusalOfRun) := goodIn_app (goodIn_of _ (by decide +kernel)) ggX5_enter_X5_refusalOfRun
set_option maxRecDepth 20000 in
theorem ggX5_enter_J7_fill_53178 : GoodIn wsX5_enter wsJ7_fill_53178 := goodIn_r _ [26] rfl (by decide +kernel)
set_option maxRecDepth 20000 in
theorem gX5_enter_J7_fill_53178 : GoodIn wsX5_enter (va_wsS RX5 74 yJ7_fill_53178 wsJ7_fill_53178) := goodIn_app (goodIn_of _ (by decide +kernel)) ggX5_enter_J7_fill_53178
set_option maxRecDepth 20000 in
theorem ggX5_enter_X1_run : GoodIn wsX5_enter wsX1_run := goodIn_r _ [31, 32, 33, 34, 35, 36, 37, 38, 39, 40, 41, 42, 43, 44, 45, 46, 47, 48, 49, 50, 51, 52, 10, 53, 54, 55, 56, 30, 57, 58, 59, 60, 61, 62, 63, 64, 65, 66, 67, 68, 69, 70, 71, 72, 73, 74, 75, 76, 77, 78, 79, 80, 81, 82, 83, 84, 85, 86, 87, 88, 89, 90, 91, 92, 93, 94, 95, 96, 97, 98, 99, 100, 101, 102, 103, 104, 105, 106, 107, 108, 109, 110, 111, 112, 24, 25, 26, 113, 114, 115, 116, 117, 118, 119, 120, 121, 122, 123, 124, 125, 126, 127, 128, 129, 130, 16, 17, 131, 132, 133, 134, 135, 136, 137, 138, 139, 140, 141, 142, 143, 144, 145, 163, 164, 165, 166, 167, 168, 169, 170, 149, 150, 151, 152, 153, 154, 155, 156, 157, 158, 159, 160, 161, 162, 171, 172, 173, 174, 175] rfl (by decide +kernel)
set_option maxRecDepth 20000 in
theorem gX5_enter_X1_run : GoodIn wsX5_enter (wsV RX5 157 RX1 yX1_run wsX1_run) := goodIn_app (goodIn_of _ (by decide +kernel)) ggX5_enter_X1_run
theorem dX5_enter_0 : decode cX5_enter 0 = .ok (.aload_n 0, 1) := by decide +kernel
theorem dX5_enter_1 : decode cX5_enter 1 = .ok (.iload_n 1, 1) := by decide +kernel
theorem dX5_enter_2 : decode cX5_enter 2 = .ok (.iload 4, 2) := by decide +kernel
theorem dX5_enter_4 : decode cX5_enter 4 = .ok (.iconst 0, 1) := by decide +kernel
theorem dX5_enter_5 : decode cX5_enter 5 = .ok (.invokevirtual 147, 3) := by decide +kernel
theorem dX5_enter_8 : decode cX5_enter 8 = .ok (.istore 5, 2) := by decide +kernel
theorem dX5_enter_10 : decode cX5_enter 10 = .ok (.iload 5, 2) := by decide +kernel
theorem dX5_enter_12 : decode cX5_enter 12 = .ok (.ifCond .eq 6, 3) := by decide +kernel
theorem dX5_enter_15 : decode cX5_enter 15 = .ok (.iload 5, 2) := by decide +kernel
theorem dX5_enter_17 : decode cX5_enter 17 = .ok (.ireturn, 1) := by decide +kernel
theorem dX5_enter_18 : decode cX5_enter 18 = .ok (.aload_n 0, 1) := by decide +kernel
theorem dX5_enter_19 : decode cX5_enter 19 = .ok (.getfield 20, 3) := by decide +kernel
theorem dX5_enter_22 : decode cX5_enter 22 = .ok (.getfield 59, 3) := by decide +kernel
theorem dX5_enter_25 : decode cX5_enter 25 = .ok (.iload_n 1, 1) := by decide +kernel
theorem dX5_enter_26 : decode cX5_enter 26 = .ok (.aaload, 1) := by decide +kernel
theorem dX5_enter_27 : decode cX5_enter 27 = .ok (.astore 6, 2) := by decide +kernel
theorem dX5_enter_29 : decode cX5_enter 29 = .ok (.aload 6, 2) := by decide +kernel
theorem dX5_enter_31 : decode cX5_enter 31 = .ok (.getfield 151, 3) := by decide +kernel
theorem dX5_enter_34 : decode cX5_enter 34 = .ok (.iconst 0, 1) := by decide +kernel
theorem dX5_enter_35 : decode cX5_enter 35 = .ok (.invokestatic 74, 3) := by decide +kernel
theorem dX5_enter_38 : decode cX5_enter 38 = .ok (.aload 6, 2) := by decide +kernel
theorem dX5_enter_40 : decode cX5_enter 40 = .ok (.getfield 151, 3) := by decide +kernel
theorem dX5_enter_43 : decode cX5_enter 43 = .ok (.iconst 0, 1) := by decide +kernel
theorem dX5_enter_44 : decode cX5_enter 44 = .ok (.iload_n 2, 1) := by decide +kernel
theorem dX5_enter_45 : decode cX5_enter 45 = .ok (.iastore, 1) := by decide +kernel
theorem dX5_enter_46 : decode cX5_enter 46 = .ok (.aload 6, 2) := by decide +kernel
theorem dX5_enter_48 : decode cX5_enter 48 = .ok (.getfield 151, 3) := by decide +kernel
theorem dX5_enter_51 : decode cX5_enter 51 = .ok (.iconst 1, 1) := by decide +kernel
theorem dX5_enter_52 : decode cX5_enter 52 = .ok (.iload_n 3, 1) := by decide +kernel
theorem dX5_enter_53 : decode cX5_enter 53 = .ok (.iastore, 1) := by decide +kernel
theorem dX5_enter_54 : decode cX5_enter 54 = .ok (.aload 6, 2) := by decide +kernel
theorem dX5_enter_56 : decode cX5_enter 56 = .ok (.aload 6, 2) := by decide +kernel
theorem dX5_enter_58 : decode cX5_enter 58 = .ok (.getfield 88, 3) := by decide +kernel
theorem dX5_enter_61 : decode cX5_enter 61 = .ok (.putfield 154, 3) := by decide +kernel
theorem dX5_enter_64 : decode cX5_enter 64 = .ok (.aload_n 0, 1) := by decide +kernel
theorem dX5_enter_65 : decode cX5_enter 65 = .ok (.getfield 10, 3) := by decide +kernel
theorem dX5_enter_68 : decode cX5_enter 68 = .ok (.aload 6, 2) := by decide +kernel
theorem dX5_enter_70 : decode cX5_enter 70 = .ok (.iload 4, 2) := by decide +kernel
theorem dX5_enter_72 : decode cX5_enter 72 = .ok (.invokevirtual 157, 3) := by decide +kernel
theorem dX5_enter_75 : decode cX5_enter 75 = .ok (.ireturn, 1) := by decide +kernel
set_option maxRecDepth 20000 in
theorem ggX5_resume_X5_refusalOfRun : GoodIn wsX5_resume wsX5_refusalOfRun := goodIn_r _ [8, 2, 3, 9, 10, 11, 12, 13, 7, 14, 15, 16, 17, 18, 19, 142, 143, 144, 145, 146, 147, 148, 149, 150, 151, 152, 153, 154, 155, 156, 157, 158] rfl (by decide +kernel)
set_option maxRecDepth 20000 in
theorem gX5_resume_X5_refusalOfRun : GoodIn wsX5_resume (wsV RX5 147 RX5 yX5_refusalOfRun wsX5_refusalOfRun) := goodIn_app (goodIn_of _ (by decide +kernel)) ggX5_resume_X5_refusalOfRun
set_option maxRecDepth 20000 in
theorem ggX5_resume_X1_run : GoodIn wsX5_resume wsX1_run := goodIn_r _ [24, 25, 26, 27, 28, 29, 30, 31, 32, 33, 34, 35, 36, 37, 38, 39, 40, 41, 42, 43, 44, 45, 7, 46, 47, 48, 49, 23, 50, 51, 52, 53, 54, 55, 56, 57, 58, 59, 60, 61, 62, 63, 64, 65, 66, 67, 68, 69, 70, 71, 72, 73, 74, 75, 76, 77, 78, 79, 80, 81, 82, 83, 84, 85, 86, 87, 88, 89, 90, 91, 92, 93, 94, 95, 96, 97, 98, 99, 100, 101, 102, 103, 104, 105, 106, 107, 108, 109, 110, 111, 112, 113, 114, 115, 116, 117, 118, 119, 120, 121, 122, 123, 124, 125, 126, 13, 14, 127, 128, 129, 130, 131, 132, 133, 134, 135, 136, 137, 138, 139, 140, 141, 159, 160, 161, 162, 163, 164, 165, 166, 145, 146, 147, 148, 149, 150, 151, 152, 153, 154, 155, 156, 157, 158, 167, 168, 169, 170, 171] rfl (by decide +kernel)
set_option maxRecDepth 20000 in
theorem gX5_resume_X1_run : GoodIn wsX5_resume (wsV RX5 157 RX1 yX1_run wsX1_run) := goodIn_app (goodIn_of _ (by decide +kernel)) ggX5_resume_X1_run
theorem dX5_resume_0 : decode cX5_resume 0 = .ok (.aload_n 0, 1) := by decide +kernel
theorem dX5_resume_1 : decode cX5_resume 1 = .ok (.iload_n 1, 1) := by decide +kernel
theorem dX5_resume_2 : decode cX5_resume 2 = .ok (.iload_n 2, 1) := by decide +kernel
theorem dX5_resume_3 : decode cX5_resume 3 = .ok (.iconst 1, 1) := by decide +kernel
theorem dX5_resume_4 : decode cX5_resume 4 = .ok (.invokevirtual 147, 3) := by decide +kernel
theorem dX5_resume_7 : decode cX5_resume 7 = .ok (.istore_n 3, 1) := by decide +kernel
theorem dX5_resume_8 : decode cX5_resume 8 = .ok (.iload_n 3, 1) := by decide +kernel
theorem dX5_resume_9 : decode cX5_resume 9 = .ok (.ifCond .eq 5, 3) := by decide +kernel
theorem dX5_resume_12 : decode cX5_resume 12 = .ok (.iload_n 3, 1) := by decide +kernel
theorem dX5_resume_13 : decode cX5_resume 13 = .ok (.ireturn, 1) := by decide +kernel
theorem dX5_resume_14 : decode cX5_resume 14 = .ok (.aload_n 0, 1) := by decide +kernel
theorem dX5_resume_15 : decode cX5_resume 15 = .ok (.getfield 10, 3) := by decide +kernel
theorem dX5_resume_18 : decode cX5_resume 18 = .ok (.aload_n 0, 1) := by decide +kernel
theorem dX5_resume_19 : decode cX5_resume 19 = .ok (.getfield 20, 3) := by decide +kernel
theorem dX5_resume_22 : decode cX5_resume 22 = .ok (.getfield 59, 3) := by decide +kernel
theorem dX5_resume_25 : decode cX5_resume 25 = .ok (.iload_n 1, 1) := by decide +kernel
theorem dX5_resume_26 : decode cX5_resume 26 = .ok (.aaload, 1) := by decide +kernel
theorem dX5_resume_27 : decode cX5_resume 27 = .ok (.iload_n 2, 1) := by decide +kernel
theorem dX5_resume_28 : decode cX5_resume 28 = .ok (.invokevirtual 157, 3) := by decide +kernel
theorem dX5_resume_31 : decode cX5_resume 31 = .ok (.ireturn, 1) := by decide +kernel
theorem dX5_result_0 : decode cX5_result 0 = .ok (.aload_n 0, 1) := by decide +kernel
theorem dX5_result_1 : decode cX5_result 1 = .ok (.getfield 10, 3) := by decide +kernel
theorem dX5_result_4 : decode cX5_result 4 = .ok (.getfield 41, 3) := by decide +kernel
theorem dX5_result_7 : decode cX5_result 7 = .ok (.ireturn, 1) := by decide +kernel
theorem dX5_steps_0 : decode cX5_steps 0 = .ok (.aload_n 0, 1) := by decide +kernel
theorem dX5_steps_1 : decode cX5_steps 1 = .ok (.getfield 10, 3) := by decide +kernel
theorem dX5_steps_4 : decode cX5_steps 4 = .ok (.getfield 161, 3) := by decide +kernel
theorem dX5_steps_7 : decode cX5_steps 7 = .ok (.ireturn, 1) := by decide +kernel
set_option maxRecDepth 20000 in
theorem ggX5_told_X5_isPage : GoodIn wsX5_told wsX5_isPage := goodIn_r _ [12] rfl (by decide +kernel)
set_option maxRecDepth 20000 in
theorem gX5_told_X5_isPage : GoodIn wsX5_told (va_wsS RX5 56 yX5_isPage wsX5_isPage) := goodIn_app (goodIn_of _ (by decide +kernel)) ggX5_told_X5_isPage
set_option maxRecDepth 20000 in
theorem ggX5_told_X5_stateOf : GoodIn wsX5_told wsX5_stateOf := goodIn_r _ [15, 7, 16, 17, 30, 31, 32, 33, 34, 35, 36, 37, 38, 39, 40, 41] rfl (by decide +kernel)
set_option maxRecDepth 20000 in
theorem gX5_told_X5_stateOf : GoodIn wsX5_told (va_wsS RX5 164 yX5_stateOf wsX5_stateOf) := goodIn_app (goodIn_of _ (by decide +kernel)) ggX5_told_X5_stateOf
set_option maxRecDepth 20000 in
theorem ggX5_told_X4_countOwnedBy : GoodIn wsX5_told wsX4_countOwnedBy := goodIn_r _ [22, 23, 24, 28, 29, 30, 31, 32, 33, 34, 35, 36, 37, 38, 39, 40, 41] rfl (by decide +kernel)
set_option maxRecDepth 20000 in
theorem gX5_told_X4_countOwnedBy : GoodIn wsX5_told (wsV RX5 143 RX4 yX4_countOwnedBy wsX4_countOwnedBy) := goodIn_app (goodIn_of _ (by decide +kernel)) ggX5_told_X4_countOwnedBy
theorem dX5_told_0 : decode cX5_told 0 = .ok (.iload_n 1, 1) := by decide +kernel
theorem dX5_told_1 : decode cX5_told 1 = .ok (.invokestatic 56, 3) := by decide +kernel
theorem dX5_told_4 : decode cX5_told 4 = .ok (.ifCond .ne 11, 3) := by decide +kernel
theorem dX5_told_7 : decode cX5_told 7 = .ok (.new 26, 3) := by decide +kernel
theorem dX5_told_10 : decode cX5_told 10 = .ok (.dup, 1) := by decide +kernel
theorem dX5_told_11 : decode cX5_told 11 = .ok (.invokespecial 28, 3) := by decide +kernel
theorem dX5_told_14 : decode cX5_told 14 = .ok (.athrow, 1) := by decide +kernel
theorem dX5_told_15 : decode cX5_told 15 = .ok (.aload_n 0, 1) := by decide +kernel
theorem dX5_told_16 : decode cX5_told 16 = .ok (.getfield 20, 3) := by decide +kernel
theorem dX5_told_19 : decode cX5_told 19 = .ok (.getfield 59, 3) := by decide +kernel
theorem dX5_told_22 : decode cX5_told 22 = .ok (.iload_n 1, 1) := by decide +kernel
theorem dX5_told_23 : decode cX5_told 23 = .ok (.aaload, 1) := by decide +kernel
theorem dX5_told_24 : decode cX5_told 24 = .ok (.astore_n 3, 1) := by decide +kernel
theorem dX5_told_25 : decode cX5_told 25 = .ok (.iload_n 2, 1) := by decide +kernel
theorem dX5_told_26 : decode cX5_told 26 = .ok (.tableswitch 66 0 3 #[30, 35, 40, 45], 30) := by decide +kernel
theorem dX5_told_56 : decode cX5_told 56 = .ok (.aload_n 3, 1) := by decide +kernel
theorem dX5_told_57 : decode cX5_told 57 = .ok (.getfield 63, 3) := by decide +kernel
theorem dX5_told_60 : decode cX5_told 60 = .ok (.ireturn, 1) := by decide +kernel
theorem dX5_told_61 : decode cX5_told 61 = .ok (.aload_n 3, 1) := by decide +kernel
theorem dX5_told_62 : decode cX5_told 62 = .ok (.getfield 136, 3) := by decide +kernel
theorem dX5_told_65 : decode cX5_told 65 = .ok (.ireturn, 1) := by decide +kernel
theorem dX5_told_66 : decode cX5_told 66 = .ok (.aload_n 3, 1) := by decide +kernel
theorem dX5_told_67 : decode cX5_told 67 = .ok (.invokestatic 164, 3) := by decide +kernel
theorem dX5_told_70 : decode cX5_told 70 = .ok (.ireturn, 1) := by decide +kernel
theorem dX5_told_71 : decode cX5_told 71 = .ok (.aload_n 3, 1) := by decide +kernel
theorem dX5_told_72 : decode cX5_told 72 = .ok (.getfield 63, 3) := by decide +kernel
theorem dX5_told_75 : decode cX5_told 75 = .ok (.iconst 1, 1) := by decide +kernel
theorem dX5_told_76 : decode cX5_told 76 = .ok (.if_icmp .ne 14, 3) := by decide +kernel
theorem dX5_told_79 : decode cX5_told 79 = .ok (.aload_n 0, 1) := by decide +kernel
theorem dX5_told_80 : decode cX5_told 80 = .ok (.getfield 20, 3) := by decide +kernel
theorem dX5_told_83 : decode cX5_told 83 = .ok (.iload_n 1, 1) := by decide +kernel
theorem dX5_told_84 : decode cX5_told 84 = .ok (.invokevirtual 143, 3) := by decide +kernel
theorem dX5_told_87 : decode cX5_told 87 = .ok (.goto 4, 3) := by decide +kernel
theorem dX5_told_90 : decode cX5_told 90 = .ok (.iconst 0, 1) := by decide +kernel
theorem dX5_told_91 : decode cX5_told 91 = .ok (.ireturn, 1) := by decide +kernel
theorem dX5_told_92 : decode cX5_told 92 = .ok (.new 168, 3) := by decide +kernel
theorem dX5_told_95 : decode cX5_told 95 = .ok (.dup, 1) := by decide +kernel
theorem dX5_told_96 : decode cX5_told 96 = .ok (.invokespecial 170, 3) := by decide +kernel
theorem dX5_told_99 : decode cX5_told 99 = .ok (.athrow, 1) := by decide +kernel
set_option maxRecDepth 20000 in
theorem ggX5_measure_X5_isPage : GoodIn wsX5_measure wsX5_isPage := goodIn_r _ [13] rfl (by decide +kernel)
set_option maxRecDepth 20000 in
theorem gX5_measure_X5_isPage : GoodIn wsX5_measure (va_wsS RX5 56 yX5_isPage wsX5_isPage) := goodIn_app (goodIn_of _ (by decide +kernel)) ggX5_measure_X5_isPage
theorem dX5_measure_0 : decode cX5_measure 0 = .ok (.iload_n 1, 1) := by decide +kernel
theorem dX5_measure_1 : decode cX5_measure 1 = .ok (.invokestatic 56, 3) := by decide +kernel
theorem dX5_measure_4 : decode cX5_measure 4 = .ok (.ifCond .eq 13, 3) := by decide +kernel
theorem dX5_measure_7 : decode cX5_measure 7 = .ok (.iload_n 2, 1) := by decide +kernel
theorem dX5_measure_8 : decode cX5_measure 8 = .ok (.ifCond .lt 9, 3) := by decide +kernel
theorem dX5_measure_11 : decode cX5_measure 11 = .ok (.iload_n 2, 1) := by decide +kernel
theorem dX5_measure_12 : decode cX5_measure 12 = .ok (.bipush 8, 2) := by decide +kernel
theorem dX5_measure_14 : decode cX5_measure 14 = .ok (.if_icmp .lt 11, 3) := by decide +kernel
theorem dX5_measure_17 : decode cX5_measure 17 = .ok (.new 26, 3) := by decide +kernel
theorem dX5_measure_20 : decode cX5_measure 20 = .ok (.dup, 1) := by decide +kernel
theorem dX5_measure_21 : decode cX5_measure 21 = .ok (.invokespecial 28, 3) := by decide +kernel
theorem dX5_measure_24 : decode cX5_measure 24 = .ok (.athrow, 1) := by decide +kernel
theorem dX5_measure_25 : decode cX5_measure 25 = .ok (.aload_n 0, 1) := by decide +kernel
theorem dX5_measure_26 : decode cX5_measure 26 = .ok (.getfield 20, 3) := by decide +kernel
theorem dX5_measure_29 : decode cX5_measure 29 = .ok (.getfield 59, 3) := by decide +kernel
theorem dX5_measure_32 : decode cX5_measure 32 = .ok (.iload_n 1, 1) := by decide +kernel
theorem dX5_measure_33 : decode cX5_measure 33 = .ok (.aaload, 1) := by decide +kernel
theorem dX5_measure_34 : decode cX5_measure 34 = .ok (.astore_n 3, 1) := by decide +kernel
theorem dX5_measure_35 : decode cX5_measure 35 = .ok (.aload_n 3, 1) := by decide +kernel
theorem dX5_measure_36 : decode cX5_measure 36 = .ok (.getfield 63, 3) := by decide +kernel
theorem dX5_measure_39 : decode cX5_measure 39 = .ok (.iconst 1, 1) := by decide +kernel
theorem dX5_measure_40 : decode cX5_measure 40 = .ok (.if_icmp .ne 10, 3) := by decide +kernel
theorem dX5_measure_43 : decode cX5_measure 43 = .ok (.aload_n 3, 1) := by decide +kernel
theorem dX5_measure_44 : decode cX5_measure 44 = .ok (.getfield 171, 3) := by decide +kernel
theorem dX5_measure_47 : decode cX5_measure 47 = .ok (.ifCond .ne 11, 3) := by decide +kernel
theorem dX5_measure_50 : decode cX5_measure 50 = .ok (.new 174, 3) := by decide +kernel
theorem dX5_measure_53 : decode cX5_measure 53 = .ok (.dup, 1) := by decide +kernel
theorem dX5_measure_54 : decode cX5_measure 54 = .ok (.invokespecial 176, 3) := by decide +kernel
theorem dX5_measure_57 : decode cX5_measure 57 = .ok (.athrow, 1) := by decide +kernel
theorem dX5_measure_58 : decode cX5_measure 58 = .ok (.aload_n 3, 1) := by decide +kernel
theorem dX5_measure_59 : decode cX5_measure 59 = .ok (.getfield 177, 3) := by decide +kernel
theorem dX5_measure_62 : decode cX5_measure 62 = .ok (.iload_n 2, 1) := by decide +kernel
theorem dX5_measure_63 : decode cX5_measure 63 = .ok (.iaload, 1) := by decide +kernel
theorem dX5_measure_64 : decode cX5_measure 64 = .ok (.ireturn, 1) := by decide +kernel
theorem dX5_isPage_0 : decode cX5_isPage 0 = .ok (.iload_n 0, 1) := by decide +kernel
theorem dX5_isPage_1 : decode cX5_isPage 1 = .ok (.ifCond .lt 13, 3) := by decide +kernel
theorem dX5_isPage_4 : decode cX5_isPage 4 = .ok (.iload_n 0, 1) := by decide +kernel
theorem dX5_isPage_5 : decode cX5_isPage 5 = .ok (.bipush 20, 2) := by decide +kernel
theorem dX5_isPage_7 : decode cX5_isPage 7 = .ok (.if_icmp .ge 7, 3) := by decide +kernel
theorem dX5_isPage_10 : decode cX5_isPage 10 = .ok (.iconst 1, 1) := by decide +kernel
theorem dX5_isPage_11 : decode cX5_isPage 11 = .ok (.goto 4, 3) := by decide +kernel
theorem dX5_isPage_14 : decode cX5_isPage 14 = .ok (.iconst 0, 1) := by decide +kernel
theorem dX5_isPage_15 : decode cX5_isPage 15 = .ok (.ireturn, 1) := by decide +kernel
theorem dX5_isFrame_0 : decode cX5_isFrame 0 = .ok (.iload_n 0, 1) := by decide +kernel
theorem dX5_isFrame_1 : decode cX5_isFrame 1 = .ok (.ifCond .lt 13, 3) := by decide +kernel
theorem dX5_isFrame_4 : decode cX5_isFrame 4 = .ok (.iload_n 0, 1) := by decide +kernel
theorem dX5_isFrame_5 : decode cX5_isFrame 5 = .ok (.bipush 8, 2) := by decide +kernel
theorem dX5_isFrame_7 : decode cX5_isFrame 7 = .ok (.if_icmp .ge 7, 3) := by decide +kernel
theorem dX5_isFrame_10 : decode cX5_isFrame 10 = .ok (.iconst 1, 1) := by decide +kernel
theorem dX5_isFrame_11 : decode cX5_isFrame 11 = .ok (.goto 4, 3) := by decide +kernel
theorem dX5_isFrame_14 : decode cX5_isFrame 14 = .ok (.iconst 0, 1) := by decide +kernel
theorem dX5_isFrame_15 : decode cX5_isFrame 15 = .ok (.ireturn, 1) := by decide +kernel
theorem dX5_isWord_0 : decode cX5_isWord 0 = .ok (.iload_n 0, 1) := by decide +kernel
theorem dX5_isWord_1 : decode cX5_isWord 1 = .ok (.ifCond .lt 13, 3) := by decide +kernel
theorem dX5_isWord_4 : decode cX5_isWord 4 = .ok (.iload_n 0, 1) := by decide +kernel
theorem dX5_isWord_5 : decode cX5_isWord 5 = .ok (.bipush 16, 2) := by decide +kernel
theorem dX5_isWord_7 : decode cX5_isWord 7 = .ok (.if_icmp .ge 7, 3) := by decide +kernel
theorem dX5_isWord_10 : decode cX5_isWord 10 = .ok (.iconst 1, 1) := by decide +kernel
theorem dX5_isWord_11 : decode cX5_isWord 11 = .ok (.goto 4, 3) := by decide +kernel
theorem dX5_isWord_14 : decode cX5_isWord 14 = .ok (.iconst 0, 1) := by decide +kernel
theorem dX5_isWord_15 : decode cX5_isWord 15 = .ok (.ireturn, 1) := by decide +kernel
theorem dX5_isBlock_0 : decode cX5_isBlock 0 = .ok (.iload_n 0, 1) := by decide +kernel
theorem dX5_isBlock_1 : decode cX5_isBlock 1 = .ok (.ifCond .lt 13, 3) := by decide +kernel
theorem dX5_isBlock_4 : decode cX5_isBlock 4 = .ok (.iload_n 0, 1) := by decide +kernel
theorem dX5_isBlock_5 : decode cX5_isBlock 5 = .ok (.bipush 32, 2) := by decide +kernel
theorem dX5_isBlock_7 : decode cX5_isBlock 7 = .ok (.if_icmp .ge 7, 3) := by decide +kernel
theorem dX5_isBlock_10 : decode cX5_isBlock 10 = .ok (.iconst 1, 1) := by decide +kernel
theorem dX5_isBlock_11 : decode cX5_isBlock 11 = .ok (.goto 4, 3) := by decide +kernel
theorem dX5_isBlock_14 : decode cX5_isBlock 14 = .ok (.iconst 0, 1) := by decide +kernel
theorem dX5_isBlock_15 : decode cX5_isBlock 15 = .ok (.ireturn, 1) := by decide +kernel
theorem dX5_areDataRights_0 : decode cX5_areDataRights 0 = .ok (.iload_n 0, 1) := by decide +kernel
theorem dX5_areDataRights_1 : decode cX5_areDataRights 1 = .ok (.iconst 1, 1) := by decide +kernel
theorem dX5_areDataRights_2 : decode cX5_areDataRights 2 = .ok (.if_icmp .lt 13, 3) := by decide +kernel
theorem dX5_areDataRights_5 : decode cX5_areDataRights 5 = .ok (.iload_n 0, 1) := by decide +kernel
theorem dX5_areDataRights_6 : decode cX5_areDataRights 6 = .ok (.bipush 7, 2) := by decide +kernel
theorem dX5_areDataRights_8 : decode cX5_areDataRights 8 = .ok (.if_icmp .gt 7, 3) := by decide +kernel
theorem dX5_areDataRights_11 : decode cX5_areDataRights 11 = .ok (.iconst 1, 1) := by decide +kernel
theorem dX5_areDataRights_12 : decode cX5_areDataRights 12 = .ok (.goto 4, 3) := by decide +kernel
theorem dX5_areDataRights_15 : decode cX5_areDataRights 15 = .ok (.iconst 0, 1) := by decide +kernel
theorem dX5_areDataRights_16 : decode cX5_areDataRights 16 = .ok (.ireturn, 1) := by decide +kernel
theorem dX5_stateOf_0 : decode cX5_stateOf 0 = .ok (.aload_n 0, 1) := by decide +kernel
theorem dX5_stateOf_1 : decode cX5_stateOf 1 = .ok (.getfield 63, 3) := by decide +kernel
theorem dX5_stateOf_4 : decode cX5_stateOf 4 = .ok (.iconst 1, 1) := by decide +kernel
theorem dX5_stateOf_5 : decode cX5_stateOf 5 = .ok (.if_icmp .ne 8, 3) := by decide +kernel
theorem dX5_stateOf_8 : decode cX5_stateOf 8 = .ok (.aload_n 0, 1) := by decide +kernel
theorem dX5_stateOf_9 : decode cX5_stateOf 9 = .ok (.getfield 68, 3) := by decide +kernel
theorem dX5_stateOf_12 : decode cX5_stateOf 12 = .ok (.ireturn, 1) := by decide +kernel
theorem dX5_stateOf_13 : decode cX5_stateOf 13 = .ok (.aload_n 0, 1) := by decide +kernel
theorem dX5_stateOf_14 : decode cX5_stateOf 14 = .ok (.getfield 63, 3) := by decide +kernel
theorem dX5_stateOf_17 : decode cX5_stateOf 17 = .ok (.iconst 2, 1) := by decide +kernel
theorem dX5_stateOf_18 : decode cX5_stateOf 18 = .ok (.if_icmp .ne 14, 3) := by decide +kernel
theorem dX5_stateOf_21 : decode cX5_stateOf 21 = .ok (.aload_n 0, 1) := by decide +kernel
theorem dX5_stateOf_22 : decode cX5_stateOf 22 = .ok (.getfield 91, 3) := by decide +kernel
theorem dX5_stateOf_25 : decode cX5_stateOf 25 = .ok (.ifCond .eq 7, 3) := by decide +kernel
theorem dX5_stateOf_28 : decode cX5_stateOf 28 = .ok (.iconst 1, 1) := by decide +kernel
theorem dX5_stateOf_29 : decode cX5_stateOf 29 = .ok (.goto 4, 3) := by decide +kernel
theorem dX5_stateOf_32 : decode cX5_stateOf 32 = .ok (.iconst 0, 1) := by decide +kernel
theorem dX5_stateOf_33 : decode cX5_stateOf 33 = .ok (.ireturn, 1) := by decide +kernel
theorem dX5_homeOf_0 : decode cX5_homeOf 0 = .ok (.aload_n 1, 1) := by decide +kernel
theorem dX5_homeOf_1 : decode cX5_homeOf 1 = .ok (.getfield 63, 3) := by decide +kernel
theorem dX5_homeOf_4 : decode cX5_homeOf 4 = .ok (.iconst 1, 1) := by decide +kernel
theorem dX5_homeOf_5 : decode cX5_homeOf 5 = .ok (.if_icmp .ne 7, 3) := by decide +kernel
theorem dX5_homeOf_8 : decode cX5_homeOf 8 = .ok (.aload_n 1, 1) := by decide +kernel
theorem dX5_homeOf_9 : decode cX5_homeOf 9 = .ok (.goto 15, 3) := by decide +kernel
theorem dX5_homeOf_12 : decode cX5_homeOf 12 = .ok (.aload_n 0, 1) := by decide +kernel
theorem dX5_homeOf_13 : decode cX5_homeOf 13 = .ok (.getfield 20, 3) := by decide +kernel
theorem dX5_homeOf_16 : decode cX5_homeOf 16 = .ok (.getfield 59, 3) := by decide +kernel
theorem dX5_homeOf_19 : decode cX5_homeOf 19 = .ok (.aload_n 1, 1) := by decide +kernel
theorem dX5_homeOf_20 : decode cX5_homeOf 20 = .ok (.getfield 136, 3) := by decide +kernel
theorem dX5_homeOf_23 : decode cX5_homeOf 23 = .ok (.aaload, 1) := by decide +kernel
theorem dX5_homeOf_24 : decode cX5_homeOf 24 = .ok (.areturn, 1) := by decide +kernel
theorem dX5_refusalOfSpace_0 : decode cX5_refusalOfSpace 0 = .ok (.aload_n 0, 1) := by decide +kernel
theorem dX5_refusalOfSpace_1 : decode cX5_refusalOfSpace 1 = .ok (.getfield 20, 3) := by decide +kernel
theorem dX5_refusalOfSpace_4 : decode cX5_refusalOfSpace 4 = .ok (.getfield 59, 3) := by decide +kernel
theorem dX5_refusalOfSpace_7 : decode cX5_refusalOfSpace 7 = .ok (.iload_n 1, 1) := by decide +kernel
theorem dX5_refusalOfSpace_8 : decode cX5_refusalOfSpace 8 = .ok (.aaload, 1) := by decide +kernel
theorem dX5_refusalOfSpace_9 : decode cX5_refusalOfSpace 9 = .ok (.astore_n 3, 1) := by decide +kernel
theorem dX5_refusalOfSpace_10 : decode cX5_refusalOfSpace 10 = .ok (.aload_n 3, 1) := by decide +kernel
theorem dX5_refusalOfSpace_11 : decode cX5_refusalOfSpace 11 = .ok (.getfield 63, 3) := by decide +kernel
theorem dX5_refusalOfSpace_14 : decode cX5_refusalOfSpace 14 = .ok (.iconst 1, 1) := by decide +kernel
theorem dX5_refusalOfSpace_15 : decode cX5_refusalOfSpace 15 = .ok (.if_icmp .eq 5, 3) := by decide +kernel
theorem dX5_refusalOfSpace_18 : decode cX5_refusalOfSpace 18 = .ok (.iconst 3, 1) := by decide +kernel
theorem dX5_refusalOfSpace_19 : decode cX5_refusalOfSpace 19 = .ok (.ireturn, 1) := by decide +kernel
theorem dX5_refusalOfSpace_20 : decode cX5_refusalOfSpace 20 = .ok (.aload_n 3, 1) := by decide +kernel
theorem dX5_refusalOfSpace_21 : decode cX5_refusalOfSpace 21 = .ok (.getfield 68, 3) := by decide +kernel
theorem dX5_refusalOfSpace_24 : decode cX5_refusalOfSpace 24 = .ok (.iload_n 2, 1) := by decide +kernel
theorem dX5_refusalOfSpace_25 : decode cX5_refusalOfSpace 25 = .ok (.if_icmp .gt 7, 3) := by decide +kernel
theorem dX5_refusalOfSpace_28 : decode cX5_refusalOfSpace 28 = .ok (.iconst 0, 1) := by decide +kernel
theorem dX5_refusalOfSpace_29 : decode cX5_refusalOfSpace 29 = .ok (.goto 4, 3) := by decide +kernel
theorem dX5_refusalOfSpace_32 : decode cX5_refusalOfSpace 32 = .ok (.iconst 4, 1) := by decide +kernel
theorem dX5_refusalOfSpace_33 : decode cX5_refusalOfSpace 33 = .ok (.ireturn, 1) := by decide +kernel
set_option maxRecDepth 20000 in
theorem ggX5_refusalOfNew_X5_refusalOfSpace : GoodIn wsX5_refusalOfNew wsX5_refusalOfSpace := goodIn_r _ [8, 1, 2, 3, 9, 10, 11, 12, 13, 14, 15, 16, 17, 18, 19, 20, 21, 22, 23, 24, 25, 26] rfl (by decide +kernel)
set_option maxRecDepth 20000 in
theorem gX5_refusalOfNew_X5_refusalOfSpace : GoodIn wsX5_refusalOfNew (wsV RX5 129 RX5 yX5_refusalOfSpace wsX5_refusalOfSpace) := goodIn_app (goodIn_of _ (by decide +kernel)) ggX5_refusalOfNew_X5_refusalOfSpace
theorem dX5_refusalOfNew_0 : decode cX5_refusalOfNew 0 = .ok (.aload_n 0, 1) := by decide +kernel
theorem dX5_refusalOfNew_1 : decode cX5_refusalOfNew 1 = .ok (.getfield 20, 3) := by decide +kernel
theorem dX5_refusalOfNew_4 : decode cX5_refusalOfNew 4 = .ok (.getfield 59, 3) := by decide +kernel
theorem dX5_refusalOfNew_7 : decode cX5_refusalOfNew 7 = .ok (.iload_n 1, 1) := by decide +kernel
theorem dX5_refusalOfNew_8 : decode cX5_refusalOfNew 8 = .ok (.aaload, 1) := by decide +kernel
theorem dX5_refusalOfNew_9 : decode cX5_refusalOfNew 9 = .ok (.getfield 63, 3) := by decide +kernel
theorem dX5_refusalOfNew_12 : decode cX5_refusalOfNew 12 = .ok (.ifCond .eq 7, 3) := by decide +kernel
theorem dX5_refusalOfNew_15 : decode cX5_refusalOfNew 15 = .ok (.iconst 2, 1) := by decide +kernel
theorem dX5_refusalOfNew_16 : decode cX5_refusalOfNew 16 = .ok (.goto 9, 3) := by decide +kernel
theorem dX5_refusalOfNew_19 : decode cX5_refusalOfNew 19 = .ok (.aload_n 0, 1) := by decide +kernel
theorem dX5_refusalOfNew_20 : decode cX5_refusalOfNew 20 = .ok (.iload_n 2, 1) := by decide +kernel
theorem dX5_refusalOfNew_21 : decode cX5_refusalOfNew 21 = .ok (.iload_n 3, 1) := by decide +kernel
theorem dX5_refusalOfNew_22 : decode cX5_refusalOfNew 22 = .ok (.invokevirtual 129, 3) := by decide +kernel
theorem dX5_refusalOfNew_25 : decode cX5_refusalOfNew 25 = .ok (.ireturn, 1) := by decide +kernel
set_option maxRecDepth 20000 in
theorem ggX5_refusalOfRun_X5_isPage : GoodIn wsX5_refusalOfRun wsX5_isPage := goodIn_r _ [9] rfl (by decide +kernel)
set_option maxRecDepth 20000 in
theorem gX5_refusalOfRun_X5_isPage : GoodIn wsX5_refusalOfRun (va_wsS RX5 56 yX5_isPage wsX5_isPage) := goodIn_app (goodIn_of _ (by decide +kernel)) ggX5_refusalOfRun_X5_isPage
set_option maxRecDepth 20000 in
theorem ggX5_refusalOfRun_X5_homeOf : GoodIn wsX5_refusalOfRun wsX5_homeOf := goodIn_r _ [13, 3, 1, 2, 14, 20, 21, 22, 23, 24, 25, 26, 27, 28, 29, 30, 31, 15, 16, 17, 18, 19] rfl (by decide +kernel)
set_option maxRecDepth 20000 in
theorem gX5_refusalOfRun_X5_homeOf : GoodIn wsX5_refusalOfRun (wsV RX5 139 RX5 yX5_homeOf wsX5_homeOf) := goodIn_app (goodIn_of _ (by decide +kernel)) ggX5_refusalOfRun_X5_homeOf
theorem dX5_refusalOfRun_0 : decode cX5_refusalOfRun 0 = .ok (.iload_n 1, 1) := by decide +kernel
theorem dX5_refusalOfRun_1 : decode cX5_refusalOfRun 1 = .ok (.invokestatic 56, 3) := by decide +kernel
theorem dX5_refusalOfRun_4 : decode cX5_refusalOfRun 4 = .ok (.ifCond .eq 15, 3) := by decide +kernel
theorem dX5_refusalOfRun_7 : decode cX5_refusalOfRun 7 = .ok (.iload_n 2, 1) := by decide +kernel
theorem dX5_refusalOfRun_8 : decode cX5_refusalOfRun 8 = .ok (.iconst 1, 1) := by decide +kernel
theorem dX5_refusalOfRun_9 : decode cX5_refusalOfRun 9 = .ok (.if_icmp .lt 10, 3) := by decide +kernel
theorem dX5_refusalOfRun_12 : decode cX5_refusalOfRun 12 = .ok (.iload_n 2, 1) := by decide +kernel
theorem dX5_refusalOfRun_13 : decode cX5_refusalOfRun 13 = .ok (.sipush 2000, 3) := by decide +kernel
theorem dX5_refusalOfRun_16 : decode cX5_refusalOfRun 16 = .ok (.if_icmp .le 5, 3) := by decide +kernel
theorem dX5_refusalOfRun_19 : decode cX5_refusalOfRun 19 = .ok (.iconst 1, 1) := by decide +kernel
theorem dX5_refusalOfRun_20 : decode cX5_refusalOfRun 20 = .ok (.ireturn, 1) := by decide +kernel
theorem dX5_refusalOfRun_21 : decode cX5_refusalOfRun 21 = .ok (.aload_n 0, 1) := by decide +kernel
theorem dX5_refusalOfRun_22 : decode cX5_refusalOfRun 22 = .ok (.getfield 20, 3) := by decide +kernel
theorem dX5_refusalOfRun_25 : decode cX5_refusalOfRun 25 = .ok (.getfield 59, 3) := by decide +kernel
theorem dX5_refusalOfRun_28 : decode cX5_refusalOfRun 28 = .ok (.iload_n 1, 1) := by decide +kernel
theorem dX5_refusalOfRun_29 : decode cX5_refusalOfRun 29 = .ok (.aaload, 1) := by decide +kernel
theorem dX5_refusalOfRun_30 : decode cX5_refusalOfRun 30 = .ok (.astore 4, 2) := by decide +kernel
theorem dX5_refusalOfRun_32 : decode cX5_refusalOfRun 32 = .ok (.aload 4, 2) := by decide +kernel
theorem dX5_refusalOfRun_34 : decode cX5_refusalOfRun 34 = .ok (.getfield 63, 3) := by decide +kernel
theorem dX5_refusalOfRun_37 : decode cX5_refusalOfRun 37 = .ok (.iconst 2, 1) := by decide +kernel
theorem dX5_refusalOfRun_38 : decode cX5_refusalOfRun 38 = .ok (.if_icmp .eq 5, 3) := by decide +kernel
theorem dX5_refusalOfRun_41 : decode cX5_refusalOfRun 41 = .ok (.iconst 3, 1) := by decide +kernel
theorem dX5_refusalOfRun_42 : decode cX5_refusalOfRun 42 = .ok (.ireturn, 1) := by decide +kernel
theorem dX5_refusalOfRun_43 : decode cX5_refusalOfRun 43 = .ok (.aload_n 0, 1) := by decide +kernel
theorem dX5_refusalOfRun_44 : decode cX5_refusalOfRun 44 = .ok (.aload 4, 2) := by decide +kernel
theorem dX5_refusalOfRun_46 : decode cX5_refusalOfRun 46 = .ok (.invokevirtual 139, 3) := by decide +kernel
theorem dX5_refusalOfRun_49 : decode cX5_refusalOfRun 49 = .ok (.getfield 68, 3) := by decide +kernel
theorem dX5_refusalOfRun_52 : decode cX5_refusalOfRun 52 = .ok (.iconst 1, 1) := by decide +kernel
theorem dX5_refusalOfRun_53 : decode cX5_refusalOfRun 53 = .ok (.if_icmp .eq 5, 3) := by decide +kernel
theorem dX5_refusalOfRun_56 : decode cX5_refusalOfRun 56 = .ok (.iconst 4, 1) := by decide +kernel
theorem dX5_refusalOfRun_57 : decode cX5_refusalOfRun 57 = .ok (.ireturn, 1) := by decide +kernel
theorem dX5_refusalOfRun_58 : decode cX5_refusalOfRun 58 = .ok (.aload 4, 2) := by decide +kernel
theorem dX5_refusalOfRun_60 : decode cX5_refusalOfRun 60 = .ok (.getfield 91, 3) := by decide +kernel
theorem dX5_refusalOfRun_63 : decode cX5_refusalOfRun 63 = .ok (.iload_n 3, 1) := by decide +kernel
theorem dX5_refusalOfRun_64 : decode cX5_refusalOfRun 64 = .ok (.if_icmp .ne 7, 3) := by decide +kernel
theorem dX5_refusalOfRun_67 : decode cX5_refusalOfRun 67 = .ok (.iconst 0, 1) := by decide +kernel
theorem dX5_refusalOfRun_68 : decode cX5_refusalOfRun 68 = .ok (.goto 5, 3) := by decide +kernel
theorem dX5_refusalOfRun_71 : decode cX5_refusalOfRun 71 = .ok (.bipush 6, 2) := by decide +kernel
theorem dX5_refusalOfRun_73 : decode cX5_refusalOfRun 73 = .ok (.ireturn, 1) := by decide +kernel
set_option maxRecDepth 20000 in
theorem ggX6_init_X6_free : GoodIn wsX6_init wsX6_free := goodIn_r _ [106, 7, 8, 107, 108, 109, 110, 111, 112, 113, 114, 115, 116, 117, 118, 119, 120, 121, 122, 123, 124, 125, 126, 127, 128, 129, 130, 131, 132, 133, 134, 135, 136, 137, 138, 139] rfl (by decide +kernel)
set_option maxRecDepth 20000 in
theorem gX6_init_X6_free : GoodIn wsX6_init (wsV RX6 155 RX6 yX6_free wsX6_free) := goodIn_app (goodIn_of _ (by decide +kernel)) ggX6_init_X6_free
theorem dX6_init_0 : decode cX6_init 0 = .ok (.aload_n 0, 1) := by decide +kernel
theorem dX6_init_1 : decode cX6_init 1 = .ok (.invokespecial 1, 3) := by decide +kernel
theorem dX6_init_4 : decode cX6_init 4 = .ok (.aload_n 0, 1) := by decide +kernel
theorem dX6_init_5 : decode cX6_init 5 = .ok (.bipush 8, 2) := by decide +kernel
theorem dX6_init_7 : decode cX6_init 7 = .ok (.newarray .int, 2) := by decide +kernel
theorem dX6_init_9 : decode cX6_init 9 = .ok (.putfield 7, 3) := by decide +kernel
theorem dX6_init_12 : decode cX6_init 12 = .ok (.aload_n 0, 1) := by decide +kernel
theorem dX6_init_13 : decode cX6_init 13 = .ok (.sipush 128, 3) := by decide +kernel
theorem dX6_init_16 : decode cX6_init 16 = .ok (.newarray .int, 2) := by decide +kernel
theorem dX6_init_18 : decode cX6_init 18 = .ok (.putfield 13, 3) := by decide +kernel
theorem dX6_init_21 : decode cX6_init 21 = .ok (.aload_n 0, 1) := by decide +kernel
theorem dX6_init_22 : decode cX6_init 22 = .ok (.bipush 20, 2) := by decide +kernel
theorem dX6_init_24 : decode cX6_init 24 = .ok (.newarray .int, 2) := by decide +kernel
theorem dX6_init_26 : decode cX6_init 26 = .ok (.putfield 16, 3) := by decide +kernel
theorem dX6_init_29 : decode cX6_init 29 = .ok (.aload_n 0, 1) := by decide +kernel
theorem dX6_init_30 : decode cX6_init 30 = .ok (.bipush 20, 2) := by decide +kernel
theorem dX6_init_32 : decode cX6_init 32 = .ok (.newarray .int, 2) := by decide +kernel
theorem dX6_init_34 : decode cX6_init 34 = .ok (.putfield 19, 3) := by decide +kernel
theorem dX6_init_37 : decode cX6_init 37 = .ok (.aload_n 0, 1) := by decide +kernel
theorem dX6_init_38 : decode cX6_init 38 = .ok (.bipush 20, 2) := by decide +kernel
theorem dX6_init_40 : decode cX6_init 40 = .ok (.newarray .int, 2) := by decide +kernel
theorem dX6_init_42 : decode cX6_init 42 = .ok (.putfield 22, 3) := by decide +kernel
theorem dX6_init_45 : decode cX6_init 45 = .ok (.aload_n 0, 1) := by decide +kernel
theorem dX6_init_46 : decode cX6_init 46 = .ok (.sipush 320, 3) := by decide +kernel
theorem dX6_init_49 : decode cX6_init 49 = .ok (.newarray .int, 2) := by decide +kernel
theorem dX6_init_51 : decode cX6_init 51 = .ok (.putfield 25, 3) := by decide +kernel
theorem dX6_init_54 : decode cX6_init 54 = .ok (.aload_n 0, 1) := by decide +kernel
theorem dX6_init_55 : decode cX6_init 55 = .ok (.sipush 160, 3) := by decide +kernel
theorem dX6_init_58 : decode cX6_init 58 = .ok (.newarray .int, 2) := by decide +kernel
theorem dX6_init_60 : decode cX6_init 60 = .ok (.putfield 28, 3) := by decide +kernel
theorem dX6_init_63 : decode cX6_init 63 = .ok (.aload_n 0, 1) := by decide +kernel
theorem dX6_init_64 : decode cX6_init 64 = .ok (.sipush 160, 3) := by decide +kernel
theorem dX6_init_67 : decode cX6_init 67 = .ok (.newarray .int, 2) := by decide +kernel
theorem dX6_init_69 : decode cX6_init 69 = .ok (.putfield 31, 3) := by decide +kernel
theorem dX6_init_72 : decode cX6_init 72 = .ok (.aload_n 0, 1) := by decide +kernel
theorem dX6_init_73 : decode cX6_init 73 = .ok (.bipush 80, 2) := by decide +kernel
theorem dX6_init_75 : decode cX6_init 75 = .ok (.newarray .int, 2) := by decide +kernel
theorem dX6_init_77 : decode cX6_init 77 = .ok (.putfield 34, 3) := by decide +kernel
theorem dX6_init_80 : decode cX6_init 80 = .ok (.aload_n 0, 1) := by decide +kernel
theorem dX6_init_81 : decode cX6_init 81 = .ok (.sipush 32000, 3) := by decide +kernel
theorem dX6_init_84 : decode cX6_init 84 = .ok (.newarray .int, 2) := by decide +kernel
theorem dX6_init_86 : decode cX6_init 86 = .ok (.putfield 37, 3) := by decide +kernel
theorem dX6_init_89 : decode cX6_init 89 = .ok (.aload_n 0, 1) := by decide +kernel
theorem dX6_init_90 : decode cX6_init 90 = .ok (.bipush 20, 2) := by decide +kernel
theorem dX6_init_92 : decode cX6_init 92 = .ok (.newarray .int, 2) := by decide +kernel
theorem dX6_init_94 : decode cX6_init 94 = .ok (.putfield 40, 3) := by decide +kernel
theorem dX6_init_97 : decode cX6_init 97 = .ok (.aload_n 0, 1) := by decide +kernel
theorem dX6_init_98 : decode cX6_init 98 = .ok (.sipush 160, 3) := by decide +kernel
theorem dX6_init_101 : decode cX6_init 101 = .ok (.newarray .int, 2) := by decide +kernel
theorem dX6_init_103 : decode cX6_init 103 = .ok (.putfield 43, 3) := by decide +kernel
theorem dX6_init_106 : decode cX6_init 106 = .ok (.aload_n 0, 1) := by decide +kernel
theorem dX6_init_107 : decode cX6_init 107 = .ok (.bipush 20, 2) := by decide +kernel
theorem dX6_init_109 : decode cX6_init 109 = .ok (.newarray .boolean, 2) := by decide +kernel
theorem dX6_init_111 : decode cX6_init 111 = .ok (.putfield 46, 3) := by decide +kernel
theorem dX6_init_114 : decode cX6_init 114 = .ok (.aload_n 0, 1) := by decide +kernel
theorem dX6_init_115 : decode cX6_init 115 = .ok (.bipush 20, 2) := by decide +kernel
theorem dX6_init_117 : decode cX6_init 117 = .ok (.newarray .int, 2) := by decide +kernel
theorem dX6_init_119 : decode cX6_init 119 = .ok (.putfield 50, 3) := by decide +kernel
theorem dX6_init_122 : decode cX6_init 122 = .ok (.aload_n 0, 1) := by decide +kernel
theorem dX6_init_123 : decode cX6_init 123 = .ok (.bipush 20, 2) := by decide +kernel
theorem dX6_init_125 : decode cX6_init 125 = .ok (.newarray .boolean, 2) := by decide +kernel
theorem dX6_init_127 : decode cX6_init 127 = .ok (.putfield 53, 3) := by decide +kernel
theorem dX6_init_130 : decode cX6_init 130 = .ok (.aload_n 0, 1) := by decide +kernel
theorem dX6_init_131 : decode cX6_init 131 = .ok (.bipush 100, 2) := by decide +kernel
theorem dX6_init_133 : decode cX6_init 133 = .ok (.newarray .int, 2) := by decide +kernel
theorem dX6_init_135 : decode cX6_init 135 = .ok (.putfield 56, 3) := by decide +kernel
theorem dX6_init_138 : decode cX6_init 138 = .ok (.aload_n 0, 1) := by decide +kernel
theorem dX6_init_139 : decode cX6_init 139 = .ok (.iconst 4, 1) := by decide +kernel
theorem dX6_init_140 : decode cX6_init 140 = .ok (.newarray .int, 2) := by decide +kernel
theorem dX6_init_142 : decode cX6_init 142 = .ok (.putfield 59, 3) := by decide +kernel
theorem dX6_init_145 : decode cX6_init 145 = .ok (.aload_n 0, 1) := by decide +kernel
theorem dX6_init_146 : decode cX6_init 146 = .ok (.bipush 64, 2) := by decide +kernel
theorem dX6_init_148 : decode cX6_init 148 = .ok (.newarray .int, 2) := by decide +kernel
theorem dX6_init_150 : decode cX6_init 150 = .ok (.dup, 1) := by decide +kernel
theorem dX6_init_151 : decode cX6_init 151 = .ok (.iconst 0, 1) := by decide +kernel
theorem dX6_init_152 : decode cX6_init 152 = .ok (.ldc 62, 2) := by decide +kernel
theorem dX6_init_154 : decode cX6_init 154 = .ok (.iastore, 1) := by decide +kernel
theorem dX6_init_155 : decode cX6_init 155 = .ok (.dup, 1) := by decide +kernel
theorem dX6_init_156 : decode cX6_init 156 = .ok (.iconst 1, 1) := by decide +kernel
theorem dX6_init_157 : decode cX6_init 157 = .ok (.ldc 63, 2) := by decide +kernel
theorem dX6_init_159 : decode cX6_init 159 = .ok (.iastore, 1) := by decide +kernel
theorem dX6_init_160 : decode cX6_init 160 = .ok (.dup, 1) := by decide +kernel
theorem dX6_init_161 : decode cX6_init 161 = .ok (.iconst 2, 1) := by decide +kernel
theorem dX6_init_162 : decode cX6_init 162 = .ok (.ldc 64, 2) := by decide +kernel
theorem dX6_init_164 : decode cX6_init 164 = .ok (.iastore, 1) := by decide +kernel
theorem dX6_init_165 : decode cX6_init 165 = .ok (.dup, 1) := by decide +kernel
theorem dX6_init_166 : decode cX6_init 166 = .ok (.iconst 3, 1) := by decide +kernel
theorem dX6_init_167 : decode cX6_init 167 = .ok (.ldc 65, 2) := by decide +kernel
theorem dX6_init_169 : decode cX6_init 169 = .ok (.iastore, 1) := by decide +kernel
theorem dX6_init_170 : decode cX6_init 170 = .ok (.dup, 1) := by decide +kernel
theorem dX6_init_171 : decode cX6_init 171 = .ok (.iconst 4, 1) := by decide +kernel
theorem dX6_init_172 : decode cX6_init 172 = .ok (.ldc 66, 2) := by decide +kernel
theorem dX6_init_174 : decode cX6_init 174 = .ok (.iastore, 1) := by decide +kernel
theorem dX6_init_175 : decode cX6_init 175 = .ok (.dup, 1) := by decide +kernel
theorem dX6_init_176 : decode cX6_init 176 = .ok (.iconst 5, 1) := by decide +kernel
theorem dX6_init_177 : decode cX6_init 177 = .ok (.ldc 67, 2) := by decide +kernel
theorem dX6_init_179 : decode cX6_init 179 = .ok (.iastore, 1) := by decide +kernel
theorem dX6_init_180 : decode cX6_init 180 = .ok (.dup, 1) := by decide +kernel
theorem dX6_init_181 : decode cX6_init 181 = .ok (.bipush 6, 2) := by decide +kernel
theorem dX6_init_183 : decode cX6_init 183 = .ok (.ldc 68, 2) := by decide +kernel
theorem dX6_init_185 : decode cX6_init 185 = .ok (.iastore, 1) := by decide +kernel
theorem dX6_init_186 : decode cX6_init 186 = .ok (.dup, 1) := by decide +kernel
theorem dX6_init_187 : decode cX6_init 187 = .ok (.bipush 7, 2) := by decide +kernel
theorem dX6_init_189 : decode cX6_init 189 = .ok (.ldc 69, 2) := by decide +kernel
theorem dX6_init_191 : decode cX6_init 191 = .ok (.iastore, 1) := by decide +kernel
theorem dX6_init_192 : decode cX6_init 192 = .ok (.dup, 1) := by decide +kernel
theorem dX6_init_193 : decode cX6_init 193 = .ok (.bipush 8, 2) := by decide +kernel
theorem dX6_init_195 : decode cX6_init 195 = .ok (.ldc 70, 2) := by decide +kernel
theorem dX6_init_197 : decode cX6_init 197 = .ok (.iastore, 1) := by decide +kernel
theorem dX6_init_198 : decode cX6_init 198 = .ok (.dup, 1) := by decide +kernel
theorem dX6_init_199 : decode cX6_init 199 = .ok (.bipush 9, 2) := by decide +kernel
theorem dX6_init_201 : decode cX6_init 201 = .ok (.ldc 71, 2) := by decide +kernel
theorem dX6_init_203 : decode cX6_init 203 = .ok (.iastore, 1) := by decide +kernel
theorem dX6_init_204 : decode cX6_init 204 = .ok (.dup, 1) := by decide +kernel
theorem dX6_init_205 : decode cX6_init 205 = .ok (.bipush 10, 2) := by decide +kernel
theorem dX6_init_207 : decode cX6_init 207 = .ok (.ldc 72, 2) := by decide +kernel
theorem dX6_init_209 : decode cX6_init 209 = .ok (.iastore, 1) := by decide +kernel
theorem dX6_init_210 : decode cX6_init 210 = .ok (.dup, 1) := by decide +kernel
theorem dX6_init_211 : decode cX6_init 211 = .ok (.bipush 11, 2) := by decide +kernel
theorem dX6_init_213 : decode cX6_init 213 = .ok (.ldc 73, 2) := by decide +kernel
theorem dX6_init_215 : decode cX6_init 215 = .ok (.iastore, 1) := by decide +kernel
theorem dX6_init_216 : decode cX6_init 216 = .ok (.dup, 1) := by decide +kernel
theorem dX6_init_217 : decode cX6_init 217 = .ok (.bipush 12, 2) := by decide +kernel
theorem dX6_init_219 : decode cX6_init 219 = .ok (.ldc 74, 2) := by decide +kernel
theorem dX6_init_221 : decode cX6_init 221 = .ok (.iastore, 1) := by decide +kernel
theorem dX6_init_222 : decode cX6_init 222 = .ok (.dup, 1) := by decide +kernel
theorem dX6_init_223 : decode cX6_init 223 = .ok (.bipush 13, 2) := by decide +kernel
theorem dX6_init_225 : decode cX6_init 225 = .ok (.ldc 75, 2) := by decide +kernel
theorem dX6_init_227 : decode cX6_init 227 = .ok (.iastore, 1) := by decide +kernel
theorem dX6_init_228 : decode cX6_init 228 = .ok (.dup, 1) := by decide +kernel
theorem dX6_init_229 : decode cX6_init 229 = .ok (.bipush 14, 2) := by decide +kernel
theorem dX6_init_231 : decode cX6_init 231 = .ok (.ldc 76, 2) := by decide +kernel
theorem dX6_init_233 : decode cX6_init 233 = .ok (.iastore, 1) := by decide +kernel
theorem dX6_init_234 : decode cX6_init 234 = .ok (.dup, 1) := by decide +kernel
theorem dX6_init_235 : decode cX6_init 235 = .ok (.bipush 15, 2) := by decide +kernel
theorem dX6_init_237 : decode cX6_init 237 = .ok (.ldc 77, 2) := by decide +kernel
theorem dX6_init_239 : decode cX6_init 239 = .ok (.iastore, 1) := by decide +kernel
theorem dX6_init_240 : decode cX6_init 240 = .ok (.dup, 1) := by decide +kernel
theorem dX6_init_241 : decode cX6_init 241 = .ok (.bipush 16, 2) := by decide +kernel
theorem dX6_init_243 : decode cX6_init 243 = .ok (.ldc 78, 2) := by decide +kernel
theorem dX6_init_245 : decode cX6_init 245 = .ok (.iastore, 1) := by decide +kernel
theorem dX6_init_246 : decode cX6_init 246 = .ok (.dup, 1) := by decide +kernel
theorem dX6_init_247 : decode cX6_init 247 = .ok (.bipush 17, 2) := by decide +kernel
theorem dX6_init_249 : decode cX6_init 249 = .ok (.ldc 79, 2) := by decide +kernel
theorem dX6_init_251 : decode cX6_init 251 = .ok (.iastore, 1) := by decide +kernel
theorem dX6_init_252 : decode cX6_init 252 = .ok (.dup, 1) := by decide +kernel
theorem dX6_init_253 : decode cX6_init 253 = .ok (.bipush 18, 2) := by decide +kernel
theorem dX6_init_255 : decode cX6_init 255 = .ok (.ldc 80, 2) := by decide +kernel
theorem dX6_init_257 : decode cX6_init 257 = .ok (.iastore, 1) := by decide +kernel
theorem dX6_init_258 : decode cX6_init 258 = .ok (.dup, 1) := by decide +kernel
theorem dX6_init_259 : decode cX6_init 259 = .ok (.bipush 19, 2) := by decide +kernel
theorem dX6_init_261 : decode cX6_init 261 = .ok (.ldc 81, 2) := by decide +kernel
theorem dX6_init_263 : decode cX6_init 263 = .ok (.iastore, 1) := by decide +kernel
theorem dX6_init_264 : decode cX6_init 264 = .ok (.dup, 1) := by decide +kernel
theorem dX6_init_265 : decode cX6_init 265 = .ok (.bipush 20, 2) := by decide +kernel
theorem dX6_init_267 : decode cX6_init 267 = .ok (.ldc 82, 2) := by decide +kernel
theorem dX6_init_269 : decode cX6_init 269 = .ok (.iastore, 1) := by decide +kernel
theorem dX6_init_270 : decode cX6_init 270 = .ok (.dup, 1) := by decide +kernel
theorem dX6_init_271 : decode cX6_init 271 = .ok (.bipush 21, 2) := by decide +kernel
theorem dX6_init_273 : decode cX6_init 273 = .ok (.ldc 83, 2) := by decide +kernel
theorem dX6_init_275 : decode cX6_init 275 = .ok (.iastore, 1) := by decide +kernel
theorem dX6_init_276 : decode cX6_init 276 = .ok (.dup, 1) := by decide +kernel
theorem dX6_init_277 : decode cX6_init 277 = .ok (.bipush 22, 2) := by decide +kernel
theorem dX6_init_279 : decode cX6_init 279 = .ok (.ldc 84, 2) := by decide +kernel
theorem dX6_init_281 : decode cX6_init 281 = .ok (.iastore, 1) := by decide +kernel
theorem dX6_init_282 : decode cX6_init 282 = .ok (.dup, 1) := by decide +kernel
theorem dX6_init_283 : decode cX6_init 283 = .ok (.bipush 23, 2) := by decide +kernel
theorem dX6_init_285 : decode cX6_init 285 = .ok (.ldc 85, 2) := by decide +kernel
theorem dX6_init_287 : decode cX6_init 287 = .ok (.iastore, 1) := by decide +kernel
theorem dX6_init_288 : decode cX6_init 288 = .ok (.dup, 1) := by decide +kernel
theorem dX6_init_289 : decode cX6_init 289 = .ok (.bipush 24, 2) := by decide +kernel
theorem dX6_init_291 : decode cX6_init 291 = .ok (.ldc 86, 2) := by decide +kernel
theorem dX6_init_293 : decode cX6_init 293 = .ok (.iastore, 1) := by decide +kernel
theorem dX6_init_294 : decode cX6_init 294 = .ok (.dup, 1) := by decide +kernel
theorem dX6_init_295 : decode cX6_init 295 = .ok (.bipush 25, 2) := by decide +kernel
theorem dX6_init_297 : decode cX6_init 297 = .ok (.ldc 87, 2) := by decide +kernel
theorem dX6_init_299 : decode cX6_init 299 = .ok (.iastore, 1) := by decide +kernel
theorem dX6_init_300 : decode cX6_init 300 = .ok (.dup, 1) := by decide +kernel
theorem dX6_init_301 : decode cX6_init 301 = .ok (.bipush 26, 2) := by decide +kernel
theorem dX6_init_303 : decode cX6_init 303 = .ok (.ldc 88, 2) := by decide +kernel
theorem dX6_init_305 : decode cX6_init 305 = .ok (.iastore, 1) := by decide +kernel
theorem dX6_init_306 : decode cX6_init 306 = .ok (.dup, 1) := by decide +kernel
theorem dX6_init_307 : decode cX6_init 307 = .ok (.bipush 27, 2) := by decide +kernel
theorem dX6_init_309 : decode cX6_init 309 = .ok (.ldc 89, 2) := by decide +kernel
theorem dX6_init_311 : decode cX6_init 311 = .ok (.iastore, 1) := by decide +kernel
theorem dX6_init_312 : decode cX6_init 312 = .ok (.dup, 1) := by decide +kernel
theorem dX6_init_313 : decode cX6_init 313 = .ok (.bipush 28, 2) := by decide +kernel
theorem dX6_init_315 : decode cX6_init 315 = .ok (.ldc 90, 2) := by decide +kernel
theorem dX6_init_317 : decode cX6_init 317 = .ok (.iastore, 1) := by decide +kernel
theorem dX6_init_318 : decode cX6_init 318 = .ok (.dup, 1) := by decide +kernel
theorem dX6_init_319 : decode cX6_init 319 = .ok (.bipush 29, 2) := by decide +kernel
theorem dX6_init_321 : decode cX6_init 321 = .ok (.ldc 91, 2) := by decide +kernel
theorem dX6_init_323 : decode cX6_init 323 = .ok (.iastore, 1) := by decide +kernel
theorem dX6_init_324 : decode cX6_init 324 = .ok (.dup, 1) := by decide +kernel
theorem dX6_init_325 : decode cX6_init 325 = .ok (.bipush 30, 2) := by decide +kernel
theorem dX6_init_327 : decode cX6_init 327 = .ok (.ldc 92, 2) := by decide +kernel
theorem dX6_init_329 : decode cX6_init 329 = .ok (.iastore, 1) := by decide +kernel
theorem dX6_init_330 : decode cX6_init 330 = .ok (.dup, 1) := by decide +kernel
theorem dX6_init_331 : decode cX6_init 331 = .ok (.bipush 31, 2) := by decide +kernel
theorem dX6_init_333 : decode cX6_init 333 = .ok (.ldc 93, 2) := by decide +kernel
theorem dX6_init_335 : decode cX6_init 335 = .ok (.iastore, 1) := by decide +kernel
theorem dX6_init_336 : decode cX6_init 336 = .ok (.dup, 1) := by decide +kernel
theorem dX6_init_337 : decode cX6_init 337 = .ok (.bipush 32, 2) := by decide +kernel
theorem dX6_init_339 : decode cX6_init 339 = .ok (.ldc 94, 2) := by decide +kernel
theorem dX6_init_341 : decode cX6_init 341 = .ok (.iastore, 1) := by decide +kernel
theorem dX6_init_342 : decode cX6_init 342 = .ok (.dup, 1) := by decide +kernel
theorem dX6_init_343 : decode cX6_init 343 = .ok (.bipush 33, 2) := by decide +kernel
theorem dX6_init_345 : decode cX6_init 345 = .ok (.ldc 95, 2) := by decide +kernel
theorem dX6_init_347 : decode cX6_init 347 = .ok (.iastore, 1) := by decide +kernel
theorem dX6_init_348 : decode cX6_init 348 = .ok (.dup, 1) := by decide +kernel
theorem dX6_init_349 : decode cX6_init 349 = .ok (.bipush 34, 2) := by decide +kernel
theorem dX6_init_351 : decode cX6_init 351 = .ok (.ldc 96, 2) := by decide +kernel
theorem dX6_init_353 : decode cX6_init 353 = .ok (.iastore, 1) := by decide +kernel
theorem dX6_init_354 : decode cX6_init 354 = .ok (.dup, 1) := by decide +kernel
theorem dX6_init_355 : decode cX6_init 355 = .ok (.bipush 35, 2) := by decide +kernel
theorem dX6_init_357 : decode cX6_init 357 = .ok (.ldc 97, 2) := by decide +kernel
theorem dX6_init_359 : decode cX6_init 359 = .ok (.iastore, 1) := by decide +kernel
theorem dX6_init_360 : decode cX6_init 360 = .ok (.dup, 1) := by decide +kernel
theorem dX6_init_361 : decode cX6_init 361 = .ok (.bipush 36, 2) := by decide +kernel
theorem dX6_init_363 : decode cX6_init 363 = .ok (.ldc 98, 2) := by decide +kernel
theorem dX6_init_365 : decode cX6_init 365 = .ok (.iastore, 1) := by decide +kernel
theorem dX6_init_366 : decode cX6_init 366 = .ok (.dup, 1) := by decide +kernel
theorem dX6_init_367 : decode cX6_init 367 = .ok (.bipush 37, 2) := by decide +kernel
theorem dX6_init_369 : decode cX6_init 369 = .ok (.ldc 99, 2) := by decide +kernel
theorem dX6_init_371 : decode cX6_init 371 = .ok (.iastore, 1) := by decide +kernel

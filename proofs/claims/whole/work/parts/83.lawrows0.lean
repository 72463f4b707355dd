set_option maxRecDepth 20000 in
theorem ggL_key_X5_key : GoodIn wsL_key wsX5_key := goodIn_ca (goodIn_r _ [6, 7, 8, 9, 10, 11, 12, 13, 14, 15, 16, 17, 18, 19, 20, 21, 22, 23, 24, 25, 26, 27, 28, 29, 30, 31, 32, 33, 34, 35, 36, 37, 38, 39, 40, 41, 42, 43, 44, 45, 46, 47, 48, 49] rfl (by decide +kernel)) (goodIn_sub (fun _ h => List.mem_cons_of_mem _ (List.mem_append_right _ h)) (by decide +kernel))
set_option maxRecDepth 20000 in
theorem gL_key_X5_key : GoodIn wsL_key (wsV RL 7 RX5 yX5_key wsX5_key) := goodIn_app (goodIn_of _ (by decide +kernel)) ggL_key_X5_key
theorem dL_key_0 : decode cL_key 0 = .ok (.aload_n 0, 1) := by decide +kernel
theorem dL_key_1 : decode cL_key 1 = .ok (.iload_n 1, 1) := by decide +kernel
theorem dL_key_2 : decode cL_key 2 = .ok (.iload_n 2, 1) := by decide +kernel
theorem dL_key_3 : decode cL_key 3 = .ok (.invokevirtual 7, 3) := by decide +kernel
theorem dL_key_6 : decode cL_key 6 = .ok (.goto 6, 3) := by decide +kernel
theorem dL_key_9 : decode cL_key 9 = .ok (.astore_n 3, 1) := by decide +kernel
theorem dL_key_10 : decode cL_key 10 = .ok (.iconst 1, 1) := by decide +kernel
theorem dL_key_11 : decode cL_key 11 = .ok (.ireturn, 1) := by decide +kernel
theorem dL_key_12 : decode cL_key 12 = .ok (.iconst 0, 1) := by decide +kernel
theorem dL_key_13 : decode cL_key 13 = .ok (.ireturn, 1) := by decide +kernel
set_option maxRecDepth 20000 in
theorem ggL_poke_X5_poke : GoodIn wsL_poke wsX5_poke := goodIn_ca (goodIn_r _ [6, 7, 8, 9, 10, 11, 5, 12, 13, 14, 15, 16, 17, 18, 19, 20, 21, 22, 23, 24, 25, 26] rfl (by decide +kernel)) (goodIn_sub (fun _ h => List.mem_cons_of_mem _ (List.mem_append_right _ h)) (by decide +kernel))
set_option maxRecDepth 20000 in
theorem gL_poke_X5_poke : GoodIn wsL_poke (wsV RL 15 RX5 yX5_poke wsX5_poke) := goodIn_app (goodIn_of _ (by decide +kernel)) ggL_poke_X5_poke
theorem dL_poke_0 : decode cL_poke 0 = .ok (.aload 4, 2) := by decide +kernel
theorem dL_poke_2 : decode cL_poke 2 = .ok (.iconst 0, 1) := by decide +kernel
theorem dL_poke_3 : decode cL_poke 3 = .ok (.aload_n 0, 1) := by decide +kernel
theorem dL_poke_4 : decode cL_poke 4 = .ok (.iload_n 1, 1) := by decide +kernel
theorem dL_poke_5 : decode cL_poke 5 = .ok (.iload_n 2, 1) := by decide +kernel
theorem dL_poke_6 : decode cL_poke 6 = .ok (.iload_n 3, 1) := by decide +kernel
theorem dL_poke_7 : decode cL_poke 7 = .ok (.invokevirtual 15, 3) := by decide +kernel
theorem dL_poke_10 : decode cL_poke 10 = .ok (.i2l, 1) := by decide +kernel
theorem dL_poke_11 : decode cL_poke 11 = .ok (.lastore, 1) := by decide +kernel
theorem dL_poke_12 : decode cL_poke 12 = .ok (.goto 7, 3) := by decide +kernel
theorem dL_poke_15 : decode cL_poke 15 = .ok (.astore 5, 2) := by decide +kernel
theorem dL_poke_17 : decode cL_poke 17 = .ok (.iconst 1, 1) := by decide +kernel
theorem dL_poke_18 : decode cL_poke 18 = .ok (.ireturn, 1) := by decide +kernel
theorem dL_poke_19 : decode cL_poke 19 = .ok (.iconst 0, 1) := by decide +kernel
theorem dL_poke_20 : decode cL_poke 20 = .ok (.ireturn, 1) := by decide +kernel
set_option maxRecDepth 20000 in
theorem ggL_peek_X5_peek : GoodIn wsL_peek wsX5_peek := goodIn_ca (goodIn_r _ [6, 7, 8, 9, 10, 11, 5, 12, 13, 14, 15, 16, 17, 18, 19, 20, 21, 22, 23, 24, 25, 26] rfl (by decide +kernel)) (goodIn_sub (fun _ h => List.mem_cons_of_mem _ (List.mem_append_right _ h)) (by decide +kernel))
set_option maxRecDepth 20000 in
theorem gL_peek_X5_peek : GoodIn wsL_peek (wsV RL 19 RX5 yX5_peek wsX5_peek) := goodIn_app (goodIn_of _ (by decide +kernel)) ggL_peek_X5_peek
theorem dL_peek_0 : decode cL_peek 0 = .ok (.aload_n 3, 1) := by decide +kernel
theorem dL_peek_1 : decode cL_peek 1 = .ok (.iconst 0, 1) := by decide +kernel
theorem dL_peek_2 : decode cL_peek 2 = .ok (.aload_n 0, 1) := by decide +kernel
theorem dL_peek_3 : decode cL_peek 3 = .ok (.iload_n 1, 1) := by decide +kernel
theorem dL_peek_4 : decode cL_peek 4 = .ok (.iload_n 2, 1) := by decide +kernel
theorem dL_peek_5 : decode cL_peek 5 = .ok (.invokevirtual 19, 3) := by decide +kernel
theorem dL_peek_8 : decode cL_peek 8 = .ok (.i2l, 1) := by decide +kernel
theorem dL_peek_9 : decode cL_peek 9 = .ok (.lastore, 1) := by decide +kernel
theorem dL_peek_10 : decode cL_peek 10 = .ok (.goto 7, 3) := by decide +kernel
theorem dL_peek_13 : decode cL_peek 13 = .ok (.astore 4, 2) := by decide +kernel
theorem dL_peek_15 : decode cL_peek 15 = .ok (.iconst 1, 1) := by decide +kernel
theorem dL_peek_16 : decode cL_peek 16 = .ok (.ireturn, 1) := by decide +kernel
theorem dL_peek_17 : decode cL_peek 17 = .ok (.iconst 0, 1) := by decide +kernel
theorem dL_peek_18 : decode cL_peek 18 = .ok (.ireturn, 1) := by decide +kernel
set_option maxRecDepth 20000 in
theorem ggL_told_X5_told : GoodIn wsL_told wsX5_told := goodIn_ca (goodIn_ca (goodIn_r _ [7, 8, 9, 10, 11, 12, 13, 14, 15, 16, 17, 6, 18, 19, 20, 21, 22, 23, 24, 25, 26, 27, 28, 29, 30, 31, 32, 33, 34, 35, 36, 37, 38, 39, 40, 41, 42, 43, 44, 45, 46, 47] rfl (by decide +kernel)) (goodIn_sub (fun _ h => List.mem_cons_of_mem _ (List.mem_append_left _ (List.mem_append_right _ h))) (by decide +kernel))) (goodIn_sub (fun _ h => List.mem_cons_of_mem _ (List.mem_append_right _ h)) (by decide +kernel))
set_option maxRecDepth 20000 in
theorem gL_told_X5_told : GoodIn wsL_told (wsV RL 23 RX5 yX5_told wsX5_told) := goodIn_app (goodIn_of _ (by decide +kernel)) ggL_told_X5_told
theorem dL_told_0 : decode cL_told 0 = .ok (.aload_n 3, 1) := by decide +kernel
theorem dL_told_1 : decode cL_told 1 = .ok (.iconst 0, 1) := by decide +kernel
theorem dL_told_2 : decode cL_told 2 = .ok (.aload_n 0, 1) := by decide +kernel
theorem dL_told_3 : decode cL_told 3 = .ok (.iload_n 1, 1) := by decide +kernel
theorem dL_told_4 : decode cL_told 4 = .ok (.iload_n 2, 1) := by decide +kernel
theorem dL_told_5 : decode cL_told 5 = .ok (.invokevirtual 23, 3) := by decide +kernel
theorem dL_told_8 : decode cL_told 8 = .ok (.i2l, 1) := by decide +kernel
theorem dL_told_9 : decode cL_told 9 = .ok (.lastore, 1) := by decide +kernel
theorem dL_told_10 : decode cL_told 10 = .ok (.goto 11, 3) := by decide +kernel
theorem dL_told_13 : decode cL_told 13 = .ok (.astore 4, 2) := by decide +kernel
theorem dL_told_15 : decode cL_told 15 = .ok (.iconst 1, 1) := by decide +kernel
theorem dL_told_16 : decode cL_told 16 = .ok (.ireturn, 1) := by decide +kernel
theorem dL_told_17 : decode cL_told 17 = .ok (.astore 4, 2) := by decide +kernel
theorem dL_told_19 : decode cL_told 19 = .ok (.iconst 2, 1) := by decide +kernel
theorem dL_told_20 : decode cL_told 20 = .ok (.ireturn, 1) := by decide +kernel
theorem dL_told_21 : decode cL_told 21 = .ok (.iconst 0, 1) := by decide +kernel
theorem dL_told_22 : decode cL_told 22 = .ok (.ireturn, 1) := by decide +kernel
set_option maxRecDepth 20000 in
theorem ggL_measure_X5_measure : GoodIn wsL_measure wsX5_measure := goodIn_ca (goodIn_ca (goodIn_r _ [7, 8, 9, 10, 11, 12, 13, 14, 15, 16, 17, 18, 6, 19, 20, 21, 22, 23, 24, 25, 26, 27, 28, 29, 30, 31, 32, 33, 34, 35, 36] rfl (by decide +kernel)) (goodIn_sub (fun _ h => List.mem_cons_of_mem _ (List.mem_append_left _ (List.mem_append_right _ h))) (by decide +kernel))) (goodIn_sub (fun _ h => List.mem_cons_of_mem _ (List.mem_append_right _ h)) (by decide +kernel))
set_option maxRecDepth 20000 in
theorem gL_measure_X5_measure : GoodIn wsL_measure (wsV RL 28 RX5 yX5_measure wsX5_measure) := goodIn_app (goodIn_of _ (by decide +kernel)) ggL_measure_X5_measure
theorem dL_measure_0 : decode cL_measure 0 = .ok (.aload_n 3, 1) := by decide +kernel
theorem dL_measure_1 : decode cL_measure 1 = .ok (.iconst 0, 1) := by decide +kernel
theorem dL_measure_2 : decode cL_measure 2 = .ok (.aload_n 0, 1) := by decide +kernel
theorem dL_measure_3 : decode cL_measure 3 = .ok (.iload_n 1, 1) := by decide +kernel
theorem dL_measure_4 : decode cL_measure 4 = .ok (.iload_n 2, 1) := by decide +kernel
theorem dL_measure_5 : decode cL_measure 5 = .ok (.invokevirtual 28, 3) := by decide +kernel
theorem dL_measure_8 : decode cL_measure 8 = .ok (.i2l, 1) := by decide +kernel
theorem dL_measure_9 : decode cL_measure 9 = .ok (.lastore, 1) := by decide +kernel
theorem dL_measure_10 : decode cL_measure 10 = .ok (.goto 11, 3) := by decide +kernel
theorem dL_measure_13 : decode cL_measure 13 = .ok (.astore 4, 2) := by decide +kernel
theorem dL_measure_15 : decode cL_measure 15 = .ok (.iconst 1, 1) := by decide +kernel
theorem dL_measure_16 : decode cL_measure 16 = .ok (.ireturn, 1) := by decide +kernel
theorem dL_measure_17 : decode cL_measure 17 = .ok (.astore 4, 2) := by decide +kernel
theorem dL_measure_19 : decode cL_measure 19 = .ok (.iconst 2, 1) := by decide +kernel
theorem dL_measure_20 : decode cL_measure 20 = .ok (.ireturn, 1) := by decide +kernel
theorem dL_measure_21 : decode cL_measure 21 = .ok (.iconst 0, 1) := by decide +kernel
theorem dL_measure_22 : decode cL_measure 22 = .ok (.ireturn, 1) := by decide +kernel

theorem dL_nextPart_0 : decode cL_nextPart 0 = .ok (.aload 5, 2) := by decide +kernel
theorem dL_nextPart_2 : decode cL_nextPart 2 = .ok (.iconst 0, 1) := by decide +kernel
theorem dL_nextPart_3 : decode cL_nextPart 3 = .ok (.aload_n 0, 1) := by decide +kernel
theorem dL_nextPart_4 : decode cL_nextPart 4 = .ok (.iload_n 1, 1) := by decide +kernel
theorem dL_nextPart_5 : decode cL_nextPart 5 = .ok (.iload_n 2, 1) := by decide +kernel
theorem dL_nextPart_6 : decode cL_nextPart 6 = .ok (.iload_n 3, 1) := by decide +kernel
theorem dL_nextPart_7 : decode cL_nextPart 7 = .ok (.iload 4, 2) := by decide +kernel
theorem dL_nextPart_9 : decode cL_nextPart 9 = .ok (.invokevirtual 136, 3) := by decide +kernel
theorem dL_nextPart_12 : decode cL_nextPart 12 = .ok (.i2l, 1) := by decide +kernel
theorem dL_nextPart_13 : decode cL_nextPart 13 = .ok (.lastore, 1) := by decide +kernel
theorem dL_nextPart_14 : decode cL_nextPart 14 = .ok (.goto 19, 3) := by decide +kernel
theorem dL_nextPart_17 : decode cL_nextPart 17 = .ok (.astore 6, 2) := by decide +kernel
theorem dL_nextPart_19 : decode cL_nextPart 19 = .ok (.iconst 1, 1) := by decide +kernel
theorem dL_nextPart_20 : decode cL_nextPart 20 = .ok (.ireturn, 1) := by decide +kernel
theorem dL_nextPart_21 : decode cL_nextPart 21 = .ok (.astore 6, 2) := by decide +kernel
theorem dL_nextPart_23 : decode cL_nextPart 23 = .ok (.iconst 2, 1) := by decide +kernel
theorem dL_nextPart_24 : decode cL_nextPart 24 = .ok (.ireturn, 1) := by decide +kernel
theorem dL_nextPart_25 : decode cL_nextPart 25 = .ok (.astore 6, 2) := by decide +kernel
theorem dL_nextPart_27 : decode cL_nextPart 27 = .ok (.iconst 3, 1) := by decide +kernel
theorem dL_nextPart_28 : decode cL_nextPart 28 = .ok (.ireturn, 1) := by decide +kernel
theorem dL_nextPart_29 : decode cL_nextPart 29 = .ok (.astore 6, 2) := by decide +kernel
theorem dL_nextPart_31 : decode cL_nextPart 31 = .ok (.iconst 4, 1) := by decide +kernel
theorem dL_nextPart_32 : decode cL_nextPart 32 = .ok (.ireturn, 1) := by decide +kernel
theorem dL_nextPart_33 : decode cL_nextPart 33 = .ok (.iconst 0, 1) := by decide +kernel
theorem dL_nextPart_34 : decode cL_nextPart 34 = .ok (.ireturn, 1) := by decide +kernel
set_option maxRecDepth 20000 in
theorem ggL_pass_X6_pass : GoodIn wsL_pass wsX6_pass := goodIn_ca (goodIn_ca (goodIn_ca (goodIn_ca (goodIn_r _ [8, 9, 10, 11, 7, 12, 13, 14, 15, 16, 17, 18, 19, 20, 21, 22, 23, 24, 25, 26, 27, 28, 29, 30, 31, 32, 33, 34, 35, 36, 37, 38, 39, 40, 41, 42, 43, 44, 45, 46, 47, 48, 49, 50, 51, 52, 53, 54, 55, 56, 57, 58, 59, 60, 61, 62, 63, 64] (by decide +kernel) (by decide +kernel)) (goodIn_sub (fun _ h => List.mem_cons_of_mem _ (List.mem_append_left _ (List.mem_append_left _ (List.mem_append_right _ h)))) (by decide +kernel))) (goodIn_sub (fun _ h => List.mem_cons_of_mem _ (List.mem_append_left _ (List.mem_append_right _ h))) (by decide +kernel))) (goodIn_sub (fun _ h => List.mem_cons_of_mem _ (List.mem_append_right _ h)) (by decide +kernel))) (goodIn_sub (fun _ h => List.mem_cons_of_mem _ (List.mem_append_left _ (List.mem_append_left _ (List.mem_append_left _ (List.mem_append_right _ h))))) (by decide +kernel))
set_option maxRecDepth 20000 in
theorem gL_pass_X6_pass : GoodIn wsL_pass (wsV RL 139 RX6 yX6_pass wsX6_pass) := goodIn_app (goodIn_of _ (by decide +kernel)) ggL_pass_X6_pass
theorem dL_pass_0 : decode cL_pass 0 = .ok (.aload 4, 2) := by decide +kernel
theorem dL_pass_2 : decode cL_pass 2 = .ok (.iconst 0, 1) := by decide +kernel
theorem dL_pass_3 : decode cL_pass 3 = .ok (.aload_n 0, 1) := by decide +kernel
theorem dL_pass_4 : decode cL_pass 4 = .ok (.iload_n 1, 1) := by decide +kernel
theorem dL_pass_5 : decode cL_pass 5 = .ok (.lload_n 2, 1) := by decide +kernel
theorem dL_pass_6 : decode cL_pass 6 = .ok (.invokevirtual 139, 3) := by decide +kernel
theorem dL_pass_9 : decode cL_pass 9 = .ok (.lastore, 1) := by decide +kernel
theorem dL_pass_10 : decode cL_pass 10 = .ok (.goto 15, 3) := by decide +kernel
theorem dL_pass_13 : decode cL_pass 13 = .ok (.astore 5, 2) := by decide +kernel
theorem dL_pass_15 : decode cL_pass 15 = .ok (.iconst 1, 1) := by decide +kernel
theorem dL_pass_16 : decode cL_pass 16 = .ok (.ireturn, 1) := by decide +kernel
theorem dL_pass_17 : decode cL_pass 17 = .ok (.astore 5, 2) := by decide +kernel
theorem dL_pass_19 : decode cL_pass 19 = .ok (.iconst 2, 1) := by decide +kernel
theorem dL_pass_20 : decode cL_pass 20 = .ok (.ireturn, 1) := by decide +kernel
theorem dL_pass_21 : decode cL_pass 21 = .ok (.astore 5, 2) := by decide +kernel
theorem dL_pass_23 : decode cL_pass 23 = .ok (.iconst 3, 1) := by decide +kernel
theorem dL_pass_24 : decode cL_pass 24 = .ok (.ireturn, 1) := by decide +kernel
theorem dL_pass_25 : decode cL_pass 25 = .ok (.iconst 0, 1) := by decide +kernel
theorem dL_pass_26 : decode cL_pass 26 = .ok (.ireturn, 1) := by decide +kernel
set_option maxRecDepth 20000 in
theorem ggL_left_X6_left : GoodIn wsL_left wsX6_left := goodIn_ca (goodIn_ca (goodIn_r _ [7, 8, 9, 10, 6, 11, 12, 13, 14, 15, 16, 17, 18, 19, 20, 21, 22, 23, 24, 25, 26, 27, 28, 29, 30, 31, 32, 33, 34, 35, 36, 37, 38, 39, 40, 41, 42, 43, 44, 45, 46, 47, 48] (by decide +kernel) (by decide +kernel)) (goodIn_sub (fun _ h => List.mem_cons_of_mem _ (List.mem_append_left _ (List.mem_append_right _ h))) (by decide +kernel))) (goodIn_sub (fun _ h => List.mem_cons_of_mem _ (List.mem_append_right _ h)) (by decide +kernel))
set_option maxRecDepth 20000 in
theorem gL_left_X6_left : GoodIn wsL_left (wsV RL 142 RX6 yX6_left wsX6_left) := goodIn_app (goodIn_of _ (by decide +kernel)) ggL_left_X6_left
theorem dL_left_0 : decode cL_left 0 = .ok (.aload_n 2, 1) := by decide +kernel
theorem dL_left_1 : decode cL_left 1 = .ok (.iconst 0, 1) := by decide +kernel
theorem dL_left_2 : decode cL_left 2 = .ok (.aload_n 0, 1) := by decide +kernel
theorem dL_left_3 : decode cL_left 3 = .ok (.iload_n 1, 1) := by decide +kernel
theorem dL_left_4 : decode cL_left 4 = .ok (.invokevirtual 142, 3) := by decide +kernel
theorem dL_left_7 : decode cL_left 7 = .ok (.i2l, 1) := by decide +kernel
theorem dL_left_8 : decode cL_left 8 = .ok (.lastore, 1) := by decide +kernel
theorem dL_left_9 : decode cL_left 9 = .ok (.goto 9, 3) := by decide +kernel
theorem dL_left_12 : decode cL_left 12 = .ok (.astore_n 3, 1) := by decide +kernel
theorem dL_left_13 : decode cL_left 13 = .ok (.iconst 1, 1) := by decide +kernel
theorem dL_left_14 : decode cL_left 14 = .ok (.ireturn, 1) := by decide +kernel
theorem dL_left_15 : decode cL_left 15 = .ok (.astore_n 3, 1) := by decide +kernel
theorem dL_left_16 : decode cL_left 16 = .ok (.iconst 2, 1) := by decide +kernel
theorem dL_left_17 : decode cL_left 17 = .ok (.ireturn, 1) := by decide +kernel
theorem dL_left_18 : decode cL_left 18 = .ok (.iconst 0, 1) := by decide +kernel
theorem dL_left_19 : decode cL_left 19 = .ok (.ireturn, 1) := by decide +kernel
set_option maxRecDepth 20000 in
theorem ggL_passedShare_X6_passedShare : GoodIn wsL_passedShare wsX6_passedShare := goodIn_ca (goodIn_ca (goodIn_ca (goodIn_r _ [8, 9, 10, 11, 12, 13, 14, 15, 7, 16, 17, 18, 19, 20, 21, 22, 23, 24, 25, 26, 27, 28, 29, 30, 31, 32, 33, 34, 35, 36, 37, 38, 39, 40, 41, 42, 43, 44] (by decide +kernel) (by decide +kernel)) (goodIn_sub (fun _ h => List.mem_cons_of_mem _ (List.mem_append_left _ (List.mem_append_left _ (List.mem_append_right _ h)))) (by decide +kernel))) (goodIn_sub (fun _ h => List.mem_cons_of_mem _ (List.mem_append_left _ (List.mem_append_right _ h))) (by decide +kernel))) (goodIn_sub (fun _ h => List.mem_cons_of_mem _ (List.mem_append_right _ h)) (by decide +kernel))
set_option maxRecDepth 20000 in
theorem gL_passedShare_X6_passedShare : GoodIn wsL_passedShare (wsV RL 145 RX6 yX6_passedShare wsX6_passedShare) := goodIn_app (goodIn_of _ (by decide +kernel)) ggL_passedShare_X6_passedShare
theorem dL_passedShare_0 : decode cL_passedShare 0 = .ok (.aload_n 2, 1) := by decide +kernel
theorem dL_passedShare_1 : decode cL_passedShare 1 = .ok (.iconst 0, 1) := by decide +kernel
theorem dL_passedShare_2 : decode cL_passedShare 2 = .ok (.aload_n 0, 1) := by decide +kernel
theorem dL_passedShare_3 : decode cL_passedShare 3 = .ok (.iload_n 1, 1) := by decide +kernel
theorem dL_passedShare_4 : decode cL_passedShare 4 = .ok (.invokevirtual 145, 3) := by decide +kernel
theorem dL_passedShare_7 : decode cL_passedShare 7 = .ok (.f2d, 1) := by decide +kernel
theorem dL_passedShare_8 : decode cL_passedShare 8 = .ok (.dastore, 1) := by decide +kernel
theorem dL_passedShare_9 : decode cL_passedShare 9 = .ok (.goto 12, 3) := by decide +kernel
theorem dL_passedShare_12 : decode cL_passedShare 12 = .ok (.astore_n 3, 1) := by decide +kernel
theorem dL_passedShare_13 : decode cL_passedShare 13 = .ok (.iconst 1, 1) := by decide +kernel
theorem dL_passedShare_14 : decode cL_passedShare 14 = .ok (.ireturn, 1) := by decide +kernel
theorem dL_passedShare_15 : decode cL_passedShare 15 = .ok (.astore_n 3, 1) := by decide +kernel
theorem dL_passedShare_16 : decode cL_passedShare 16 = .ok (.iconst 2, 1) := by decide +kernel
theorem dL_passedShare_17 : decode cL_passedShare 17 = .ok (.ireturn, 1) := by decide +kernel
theorem dL_passedShare_18 : decode cL_passedShare 18 = .ok (.astore_n 3, 1) := by decide +kernel
theorem dL_passedShare_19 : decode cL_passedShare 19 = .ok (.iconst 3, 1) := by decide +kernel
theorem dL_passedShare_20 : decode cL_passedShare 20 = .ok (.ireturn, 1) := by decide +kernel
theorem dL_passedShare_21 : decode cL_passedShare 21 = .ok (.iconst 0, 1) := by decide +kernel
theorem dL_passedShare_22 : decode cL_passedShare 22 = .ok (.ireturn, 1) := by decide +kernel
abbrev vwCl : List vw_C := [(RJ0, TJ0, 2), (RJx00060, TJx00060, 6), (RX0, TX0, 1), (RX1, TX1, 6), (RX2, TX2, 6), (RX3, TX3, 1), (RX4, TX4, 2), (RX5, TX5, 8), (RX6, TX6, 7), (RX7, TX7, 21)]

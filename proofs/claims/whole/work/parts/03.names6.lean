theorem dL_nextPart_0 : decode cL_nextPart 0 = .ok (.aload 5, 2) := by decide +kernel
theorem dL_nextPart_2 : decode cL_nextPart 2 = .ok (.iconst 0, 1) := by decide +kernel
theorem dL_nextPart_3 : decode cL_nextPart 3 = .ok (.aload_n 0, 1) := by decide +kernel
theorem dL_nextPart_4 : decode cL_nextPart 4 = .ok (.iload_n 1, 1) := by decide +kernel
theorem dL_nextPart_5 : decode cL_nextPart 5 = .ok (.iload_n 2, 1) := by decide +kernel
theorem dL_nextPart_6 : decode cL_nextPart 6 = .ok (.iload_n 3, 1) := by decide +kernel
theorem dL_nextPart_7 : decode cL_nextPart 7 = .ok (.iload 4, 2) := by decide +kernel
theorem dL_nextPart_9 : decode cL_nextPart 9 = .ok (.invokevirtual 136, 3) := by decide +kernel
theorem dL_nextPart_12 : decode cL_nextPart 12 = .ok (.i2l, 1) := by decide +kernel
theorem dL_nextPart_13 : decode cL_nextPart 13 = .ok (.lastore, 1) := by decide +kernel
theorem dL_nextPart_14 : decode cL_nextPart 14 = .ok (.goto 19, 3) := by decide +kernel
theorem dL_nextPart_17 : decode cL_nextPart 17 = .ok (.astore 6, 2) := by decide +kernel
theorem dL_nextPart_19 : decode cL_nextPart 19 = .ok (.iconst 1, 1) := by decide +kernel
theorem dL_nextPart_20 : decode cL_nextPart 20 = .ok (.ireturn, 1) := by decide +kernel
theorem dL_nextPart_21 : decode cL_nextPart 21 = .ok (.astore 6, 2) := by decide +kernel
theorem dL_nextPart_23 : decode cL_nextPart 23 = .ok (.iconst 2, 1) := by decide +kernel
theorem dL_nextPart_24 : decode cL_nextPart 24 = .ok (.ireturn, 1) := by decide +kernel
theorem dL_nextPart_25 : decode cL_nextPart 25 = .ok (.astore 6, 2) := by decide +kernel
theorem dL_nextPart_27 : decode cL_nextPart 27 = .ok (.iconst 3, 1) := by decide +kernel
theorem dL_nextPart_28 : decode cL_nextPart 28 = .ok (.ireturn, 1) := by decide +kernel
theorem dL_nextPart_29 : decode cL_nextPart 29 = .ok (.astore 6, 2) := by decide +kernel
theorem dL_nextPart_31 : decode cL_nextPart 31 = .ok (.iconst 4, 1) := by decide +kernel
theorem dL_nextPart_32 : decode cL_nextPart 32 = .ok (.ireturn, 1) := by decide +kernel
theorem dL_nextPart_33 : decode cL_nextPart 33 = .ok (.iconst 0, 1) := by decide +kernel
theorem dL_nextPart_34 : decode cL_nextPart 34 = .ok (.ireturn, 1) := by decide +kernel
set_option maxRecDepth 20000 in
theorem ggL_pass_X6_pass : GoodIn wsL_pass wsX6_pass := goodIn_ca (goodIn_ca (goodIn_ca (goodIn_ca (goodIn_r _ [8, 9, 10, 11, 7, 12, 13, 14, 15, 16, 17, 18, 19, 20, 21, 22, 23, 24, 25, 26, 27, 28, 29, 30, 31, 32, 33, 34, 35, 36, 37, 38, 39, 40, 41, 42, 43, 44, 45, 46, 47, 48, 49, 50, 51, 52, 53, 54, 55, 56, 57, 58, 59, 60, 61, 62, 63, 64] (by decide +kernel) (by decide +kernel)) (goodIn_sub (fun _ h => List.mem_cons_of_mem _ (List.mem_append_left _ (List.mem_append_left _ (List.mem_append_right _ h)))) (by decide +kernel))) (goodIn_sub (fun _ h => List.mem_cons_of_mem _ (List.mem_append_left _ (List.mem_append_right _ h))) (by decide +kernel))) (goodIn_sub (fun _ h => List.mem_cons_of_mem _ (List.mem_append_right _ h)) (by decide +kernel))) (goodIn_sub (fun _ h => List.mem_cons_of_mem _ (List.mem_append_left _ (List.mem_append_left _ (List.mem_append_left _ (List.mem_append_right _ h))))) (by decide +kernel))
set_option maxRecDepth 20000 in
theorem gL_pass_X6_pass : GoodIn wsL_pass (wsV RL 139 RX6 yX6_pass wsX6_pass) := goodIn_app (goodIn_of _ (by decide +kernel)) ggL_pass_X6_pass
theorem dL_pass_0 : decode cL_pass 0 = .ok (.aload 4, 2) := by decide +kernel
theorem dL_pass_2 : decode cL_pass 2 = .ok (.iconst 0, 1) := by decide +kernel
theorem dL_pass_3 : decode cL_pass 3 = .ok (.aload_n 0, 1) := by decide +kernel
theorem dL_pass_4 : decode cL_pass 4 = .ok (.iload_n 1, 1) := by decide +kernel
theorem dL_pass_5 : decode cL_pass 5 = .ok (.lload_n 2, 1) := by decide +kernel
theorem dL_pass_6 : decode cL_pass 6 = .ok (.invokevirtual 139, 3) := by decide +kernel
theorem dL_pass_9 : decode cL_pass 9 = .ok (.lastore, 1) := by decide +kernel
theorem dL_pass_10 : decode cL_pass 10 = .ok (.goto 15, 3) := by decide +kernel
theorem dL_pass_13 : decode cL_pass 13 = .ok (.astore 5, 2) := by decide +kernel
theorem dL_pass_15 : decode cL_pass 15 = .ok (.iconst 1, 1) := by decide +kernel
theorem dL_pass_16 : decode cL_pass 16 = .ok (.ireturn, 1) := by decide +kernel
theorem dL_pass_17 : decode cL_pass 17 = .ok (.astore 5, 2) := by decide +kernel
theorem dL_pass_19 : decode cL_pass 19 = .ok (.iconst 2, 1) := by decide +kernel
theorem dL_pass_20 : decode cL_pass 20 = .ok (.ireturn, 1) := by decide +kernel
theorem dL_pass_21 : decode cL_pass 21 = .ok (.astore 5, 2) := by decide +kernel
theorem dL_pass_23 : decode cL_pass 23 = .ok (.iconst 3, 1) := by decide +kernel
theorem dL_pass_24 : decode cL_pass 24 = .ok (.ireturn, 1) := by decide +kernel
theorem dL_pass_25 : decode cL_pass 25 = .ok (.iconst 0, 1) := by decide +kernel
theorem dL_pass_26 : decode cL_pass 26 = .ok (.ireturn, 1) := by decide +kernel
set_option maxRecDepth 20000 in
theorem ggL_left_X6_left : GoodIn wsL_left wsX6_left := goodIn_ca (goodIn_ca (goodIn_r _ [7, 8, 9, 10, 6, 11, 12, 13, 14, 15, 16, 17, 18, 19, 20, 21, 22, 23, 24, 25, 26, 27, 28, 29, 30, 31, 32, 33, 34, 35, 36, 37, 38, 39, 40, 41, 42, 43, 44, 45, 46, 47, 48] (by decide +kernel) (by decide +kernel)) (goodIn_sub (fun _ h => List.mem_cons_of_mem _ (List.mem_append_left _ (List.mem_append_right _ h))) (by decide +kernel))) (goodIn_sub (fun _ h => List.mem_cons_of_mem _ (List.mem_append_right _ h)) (by decide +kernel))
set_option maxRecDepth 20000 in
theorem gL_left_X6_left : GoodIn wsL_left (wsV RL 142 RX6 yX6_left wsX6_left) := goodIn_app (goodIn_of _ (by decide +kernel)) ggL_left_X6_left
theorem dL_left_0 : decode cL_left 0 = .ok (.aload_n 2, 1) := by decide +kernel
theorem dL_left_1 : decode cL_left 1 = .ok (.iconst 0, 1) := by decide +kernel
theorem dL_left_2 : decode cL_left 2 = .ok (.aload_n 0, 1) := by decide +kernel
theorem dL_left_3 : decode cL_left 3 = .ok (.iload_n 1, 1) := by decide +kernel
theorem dL_left_4 : decode cL_left 4 = .ok (.invokevirtual 142, 3) := by decide +kernel
theorem dL_left_7 : decode cL_left 7 = .ok (.i2l, 1) := by decide +kernel
theorem dL_left_8 : decode cL_left 8 = .ok (.lastore, 1) := by decide +kernel
theorem dL_left_9 : decode cL_left 9 = .ok (.goto 9, 3) := by decide +kernel
theorem dL_left_12 : decode cL_left 12 = .ok (.astore_n 3, 1) := by decide +kernel
theorem dL_left_13 : decode cL_left 13 = .ok (.iconst 1, 1) := by decide +kernel
theorem dL_left_14 : decode cL_left 14 = .ok (.ireturn, 1) := by decide +kernel
theorem dL_left_15 : decode cL_left 15 = .ok (.astore_n 3, 1) := by decide +kernel
theorem dL_left_16 : decode cL_left 16 = .ok (.iconst 2, 1) := by decide +kernel
theorem dL_left_17 : decode cL_left 17 = .ok (.ireturn, 1) := by decide +kernel
theorem dL_left_18 : decode cL_left 18 = .ok (.iconst 0, 1) := by decide +kernel
theorem dL_left_19 : decode cL_left 19 = .ok (.ireturn, 1) := by decide +kernel
set_option maxRecDepth 20000 in
theorem ggL_passedShare_X6_passedShare : GoodIn wsL_passedShare wsX6_passedShare := goodIn_ca (goodIn_ca (goodIn_ca (goodIn_r _ [8, 9, 10, 11, 12, 13, 14, 15, 7, 16, 17, 18, 19, 20, 21, 22, 23, 24, 25, 26, 27, 28, 29, 30, 31, 32, 33, 34, 35, 36, 37, 38, 39, 40, 41, 42, 43, 44] (by decide +kernel) (by decide +kernel)) (goodIn_sub (fun _ h => List.mem_cons_of_mem _ (List.mem_append_left _ (List.mem_append_left _ (List.mem_append_right _ h)))) (by decide +kernel))) (goodIn_sub (fun _ h => List.mem_cons_of_mem _ (List.mem_append_left _ (List.mem_append_right _ h))) (by decide +kernel))) (goodIn_sub (fun _ h => List.mem_cons_of_mem _ (List.mem_append_right _ h)) (by decide +kernel))
set_option maxRecDepth 20000 in
theorem gL_passedShare_X6_passedShare : GoodIn wsL_passedShare (wsV RL 145 RX6 yX6_passedShare wsX6_passedShare) := goodIn_app (goodIn_of _ (by decide +kernel)) ggL_passedShare_X6_passedShare
theorem dL_passedShare_0 : decode cL_passedShare 0 = .ok (.aload_n 2, 1) := by decide +kernel
theorem dL_passedShare_1 : decode cL_passedShare 1 = .ok (.iconst 0, 1) := by decide +kernel
theorem dL_passedShare_2 : decode cL_passedShare 2 = .ok (.aload_n 0, 1) := by decide +kernel
theorem dL_passedShare_3 : decode cL_passedShare 3 = .ok (.iload_n 1, 1) := by decide +kernel
theorem dL_passedShare_4 : decode cL_passedShare 4 = .ok (.invokevirtual 145, 3) := by decide +kernel
theorem dL_passedShare_7 : decode cL_passedShare 7 = .ok (.f2d, 1) := by decide +kernel
theorem dL_passedShare_8 : decode cL_passedShare 8 = .ok (.dastore, 1) := by decide +kernel
theorem dL_passedShare_9 : decode cL_passedShare 9 = .ok (.goto 12, 3) := by decide +kernel
theorem dL_passedShare_12 : decode cL_passedShare 12 = .ok (.astore_n 3, 1) := by decide +kernel
theorem dL_passedShare_13 : decode cL_passedShare 13 = .ok (.iconst 1, 1) := by decide +kernel
theorem dL_passedShare_14 : decode cL_passedShare 14 = .ok (.ireturn, 1) := by decide +kernel
theorem dL_passedShare_15 : decode cL_passedShare 15 = .ok (.astore_n 3, 1) := by decide +kernel
theorem dL_passedShare_16 : decode cL_passedShare 16 = .ok (.iconst 2, 1) := by decide +kernel
theorem dL_passedShare_17 : decode cL_passedShare 17 = .ok (.ireturn, 1) := by decide +kernel
theorem dL_passedShare_18 : decode cL_passedShare 18 = .ok (.astore_n 3, 1) := by decide +kernel
theorem dL_passedShare_19 : decode cL_passedShare 19 = .ok (.iconst 3, 1) := by decide +kernel
theorem dL_passedShare_20 : decode cL_passedShare 20 = .ok (.ireturn, 1) := by decide +kernel
theorem dL_passedShare_21 : decode cL_passedShare 21 = .ok (.iconst 0, 1) := by decide +kernel
theorem dL_passedShare_22 : decode cL_passedShare 22 = .ok (.ireturn, 1) := by decide +kernel
set_option maxRecDepth 20000 in
theorem ggL_law_X6_init : GoodIn wsL_law wsX6_init := goodIn_r _ [11, 12, 13, 14, 15, 16, 17, 18, 19, 20, 21, 22, 23, 24, 25, 26, 27, 28, 29, 30, 31, 32, 33, 34, 35, 36, 37, 38, 39, 40, 41, 42, 43, 44, 45, 46, 47, 48, 49, 50, 51, 52, 53, 54, 55, 56, 57, 58, 59, 60, 61, 62, 63, 64, 65, 66, 67, 68, 69, 70, 71, 72, 73, 74, 75, 76, 77, 78, 79, 80, 81, 82, 953, 954, 955, 956, 957, 958, 959, 981, 982, 983, 984, 985, 986, 987, 988, 989, 990, 991, 992, 993, 994, 995, 996, 997, 998, 999, 1000, 1001, 1002, 1003, 1004] (by decide +kernel) (by decide +kernel)
set_option maxRecDepth 20000 in
theorem gL_law_X6_init : GoodIn wsL_law (wsX6_init) := ggL_law_X6_init
set_option maxRecDepth 20000 in
theorem ggL_law_X7_init : GoodIn wsL_law wsX7_init := goodIn_ca (goodIn_r _ [85, 86, 13, 14, 87, 88, 89, 90, 91, 92, 93, 94, 95, 96, 97, 98, 99, 100, 101, 102, 103, 104, 105, 106, 107, 108, 960, 961, 962, 963, 964, 965, 966, 967, 968, 969, 970, 971, 972, 973, 974, 975, 976, 977, 978, 979, 980] (by decide +kernel) (by decide +kernel)) (goodIn_sub (fun _ h => List.mem_append_left _ (List.mem_append_left _ (List.mem_append_left _ (List.mem_append_left _ (List.mem_append_left _ (List.mem_append_right _ h)))))) (by decide +kernel))
set_option maxRecDepth 20000 in
theorem gL_law_X7_init : GoodIn wsL_law (wsX7_init) := ggL_law_X7_init
set_option maxRecDepth 20000 in
theorem ggL_law_L_make : GoodIn wsL_law wsL_make := goodIn_ca (goodIn_ca (goodIn_ca (goodIn_r _ [112, 113, 114, 115, 116, 117, 2, 118, 119, 120, 121, 16, 15, 17, 18, 122, 123, 124, 125, 126, 127, 40, 41, 42, 43, 13, 14, 44, 45, 981, 953, 954, 955, 956, 957, 958, 959] (by decide +kernel) (by decide +kernel)) (goodIn_sub (fun _ h => List.mem_append_left _ (List.mem_append_left _ (List.mem_append_left _ (List.mem_append_left _ (List.mem_append_left _ (List.mem_append_right _ h)))))) (by decide +kernel))) (goodIn_sub (fun _ h => List.mem_append_left _ (List.mem_append_left _ (List.mem_append_left _ (List.mem_append_left _ (List.mem_append_right _ h))))) (by decide +kernel))) (goodIn_sub (fun _ h => List.mem_append_left _ (List.mem_append_left _ (List.mem_append_left _ (List.mem_append_right _ h)))) (by decide +kernel))
set_option maxRecDepth 20000 in
theorem gL_law_L_make : GoodIn wsL_law (va_wsS RL 155 yL_make wsL_make) := goodIn_app (goodIn_of _ (by decide +kernel)) ggL_law_L_make
set_option maxRecDepth 20000 in
theorem ggL_law_X7_make : GoodIn wsL_law wsX7_make := goodIn_ca (goodIn_r _ [131, 108, 132, 133, 134, 5, 135, 136, 137, 138, 139, 140, 141, 142, 143, 144, 89, 90, 145, 146, 147, 148, 88, 149, 150, 151, 152, 96, 960, 961, 962, 963, 964, 965, 966, 967, 968, 969, 970, 971, 972, 973, 974, 975, 976, 977, 978, 979, 980] (by decide +kernel) (by decide +kernel)) (goodIn_sub (fun _ h => List.mem_append_left _ (List.mem_append_left _ (List.mem_append_left _ (List.mem_append_left _ (List.mem_append_left _ (List.mem_append_right _ h)))))) (by decide +kernel))
set_option maxRecDepth 20000 in
theorem gL_law_X7_make : GoodIn wsL_law (wsV RL 160 RX7 yX7_make wsX7_make) := goodIn_app (goodIn_of _ (by decide +kernel)) ggL_law_X7_make
set_option maxRecDepth 20000 in
theorem ggL_law_X7_thrown : GoodIn wsL_law wsX7_thrown := goodIn_r _ [156, 140, 960, 961, 962, 963, 964, 965, 966, 967, 968, 969, 970, 971, 972, 973, 974, 975, 976, 977, 978, 979, 980] (by decide +kernel) (by decide +kernel)
set_option maxRecDepth 20000 in
theorem gL_law_X7_thrown : GoodIn wsL_law (wsV RL 161 RX7 yX7_thrown wsX7_thrown) := goodIn_app (goodIn_of _ (by decide +kernel)) ggL_law_X7_thrown
set_option maxRecDepth 20000 in
theorem ggL_law_L_put : GoodIn wsL_law wsL_put := goodIn_ca (goodIn_ca (goodIn_r _ [159, 113, 160, 161, 162, 2, 163, 121, 122, 123, 124, 125, 126, 127, 16, 164, 165, 166, 167, 168, 169, 981, 953, 954, 955, 956, 957, 958, 959] (by decide +kernel) (by decide +kernel)) (goodIn_sub (fun _ h => List.mem_append_left _ (List.mem_append_left _ (List.mem_append_left _ (List.mem_append_left _ (List.mem_append_left _ (List.mem_append_right _ h)))))) (by decide +kernel))) (goodIn_sub (fun _ h => List.mem_append_left _ (List.mem_append_left _ (List.mem_append_left _ (List.mem_append_right _ h)))) (by decide +kernel))
set_option maxRecDepth 20000 in
theorem gL_law_L_put : GoodIn wsL_law (va_wsS RL 165 yL_put wsL_put) := goodIn_app (goodIn_of _ (by decide +kernel)) ggL_law_L_put
set_option maxRecDepth 20000 in
theorem ggL_law_X7_put : GoodIn wsL_law wsX7_put := goodIn_ca (goodIn_r _ [173, 90, 88, 174, 175, 176, 5, 177, 132, 133, 134, 135, 141, 142, 143, 144, 89, 136, 137, 138, 139, 140, 960, 961, 962, 963, 964, 965, 966, 967, 968, 969, 970, 971, 972, 973, 974, 975, 976, 977, 978, 979, 980] (by decide +kernel) (by decide +kernel)) (goodIn_sub (fun _ h => List.mem_append_left _ (List.mem_append_left _ (List.mem_append_left _ (List.mem_append_left _ (List.mem_append_left _ (List.mem_append_right _ h)))))) (by decide +kernel))
set_option maxRecDepth 20000 in
theorem gL_law_X7_put : GoodIn wsL_law (wsV RL 168 RX7 yX7_put wsX7_put) := goodIn_app (goodIn_of _ (by decide +kernel)) ggL_law_X7_put
set_option maxRecDepth 20000 in
theorem ggL_law_L_fill : GoodIn wsL_law wsL_fill := goodIn_ca (goodIn_ca (goodIn_r _ [180, 113, 181, 182, 183, 2, 184, 121, 122, 123, 124, 125, 126, 127, 16, 185, 186, 187, 167, 168, 169, 981, 953, 954, 955, 956, 957, 958, 959] (by decide +kernel) (by decide +kernel)) (goodIn_sub (fun _ h => List.mem_append_left _ (List.mem_append_left _ (List.mem_append_left _ (List.mem_append_left _ (List.mem_append_left _ (List.mem_append_right _ h)))))) (by decide +kernel))) (goodIn_sub (fun _ h => List.mem_append_left _ (List.mem_append_left _ (List.mem_append_left _ (List.mem_append_right _ h)))) (by decide +kernel))
set_option maxRecDepth 20000 in
theorem gL_law_L_fill : GoodIn wsL_law (va_wsS RL 169 yL_fill wsL_fill) := goodIn_app (goodIn_of _ (by decide +kernel)) ggL_law_L_fill
set_option maxRecDepth 20000 in
theorem ggL_law_X7_fill : GoodIn wsL_law wsX7_fill := goodIn_ca (goodIn_r _ [191, 90, 88, 174, 175, 176, 5, 177, 132, 133, 134, 135, 141, 142, 143, 144, 89, 136, 137, 138, 139, 140, 960, 961, 962, 963, 964, 965, 966, 967, 968, 969, 970, 971, 972, 973, 974, 975, 976, 977, 978, 979, 980] (by decide +kernel) (by decide +kernel)) (goodIn_sub (fun _ h => List.mem_append_left _ (List.mem_append_left _ (List.mem_append_left _ (List.mem_append_left _ (List.mem_append_left _ (List.mem_append_right _ h)))))) (by decide +kernel))
set_option maxRecDepth 20000 in
theorem gL_law_X7_fill : GoodIn wsL_law (wsV RL 172 RX7 yX7_fill wsX7_fill) := goodIn_app (goodIn_of _ (by decide +kernel)) ggL_law_X7_fill
set_option maxRecDepth 20000 in
theorem ggL_law_L_get : GoodIn wsL_law wsL_get := goodIn_ca (goodIn_ca (goodIn_r _ [194, 113, 195, 196, 197, 2, 198, 121, 122, 123, 124, 125, 126, 127, 16, 164, 165, 166, 981, 953, 954, 955, 956, 957, 958, 959] (by decide +kernel) (by decide +kernel)) (goodIn_sub (fun _ h => List.mem_append_left _ (List.mem_append_left _ (List.mem_append_left _ (List.mem_append_left _ (List.mem_append_left _ (List.mem_append_right _ h)))))) (by decide +kernel))) (goodIn_sub (fun _ h => List.mem_append_left _ (List.mem_append_left _ (List.mem_append_left _ (List.mem_append_right _ h)))) (by decide +kernel))
set_option maxRecDepth 20000 in
theorem gL_law_L_get : GoodIn wsL_law (va_wsS RL 173 yL_get wsL_get) := goodIn_app (goodIn_of _ (by decide +kernel)) ggL_law_L_get
set_option maxRecDepth 20000 in
theorem ggL_law_X7_get : GoodIn wsL_law wsX7_get := goodIn_ca (goodIn_r _ [202, 88, 90, 174, 175, 176, 5, 177, 132, 133, 134, 135, 141, 142, 143, 144, 89, 136, 137, 138, 139, 140, 960, 961, 962, 963, 964, 965, 966, 967, 968, 969, 970, 971, 972, 973, 974, 975, 976, 977, 978, 979, 980] (by decide +kernel) (by decide +kernel)) (goodIn_sub (fun _ h => List.mem_append_left _ (List.mem_append_left _ (List.mem_append_left _ (List.mem_append_left _ (List.mem_append_left _ (List.mem_append_right _ h)))))) (by decide +kernel))
set_option maxRecDepth 20000 in
theorem gL_law_X7_get : GoodIn wsL_law (wsV RL 175 RX7 yX7_get wsX7_get) := goodIn_app (goodIn_of _ (by decide +kernel)) ggL_law_X7_get
set_option maxRecDepth 20000 in
theorem ggL_law_L_length : GoodIn wsL_law wsL_length := goodIn_ca (goodIn_ca (goodIn_r _ [205, 113, 206, 207, 208, 2, 209, 121, 122, 123, 124, 125, 126, 127, 16, 981, 953, 954, 955, 956, 957, 958, 959] (by decide +kernel) (by decide +kernel)) (goodIn_sub (fun _ h => List.mem_append_left _ (List.mem_append_left _ (List.mem_append_left _ (List.mem_append_left _ (List.mem_append_left _ (List.mem_append_right _ h)))))) (by decide +kernel))) (goodIn_sub (fun _ h => List.mem_append_left _ (List.mem_append_left _ (List.mem_append_left _ (List.mem_append_right _ h)))) (by decide +kernel))
set_option maxRecDepth 20000 in
theorem gL_law_L_length : GoodIn wsL_law (va_wsS RL 176 yL_length wsL_length) := goodIn_app (goodIn_of _ (by decide +kernel)) ggL_law_L_length
set_option maxRecDepth 20000 in
theorem ggL_law_X7_length : GoodIn wsL_law wsX7_length := goodIn_ca (goodIn_r _ [213, 132, 133, 134, 5, 135, 136, 137, 138, 139, 140, 141, 142, 143, 144, 89, 90, 960, 961, 962, 963, 964, 965, 966, 967, 968, 969, 970, 971, 972, 973, 974, 975, 976, 977, 978, 979, 980] (by decide +kernel) (by decide +kernel)) (goodIn_sub (fun _ h => List.mem_append_left _ (List.mem_append_left _ (List.mem_append_left _ (List.mem_append_left _ (List.mem_append_left _ (List.mem_append_right _ h)))))) (by decide +kernel))
set_option maxRecDepth 20000 in
theorem gL_law_X7_length : GoodIn wsL_law (wsV RL 179 RX7 yX7_length wsX7_length) := goodIn_app (goodIn_of _ (by decide +kernel)) ggL_law_X7_length
set_option maxRecDepth 20000 in
theorem ggL_law_L_makeBytes : GoodIn wsL_law wsL_makeBytes := goodIn_ca (goodIn_ca (goodIn_ca (goodIn_r _ [216, 113, 114, 217, 218, 219, 2, 220, 119, 120, 221, 19, 21, 22, 20, 222, 223, 224, 225, 126, 127, 46, 47, 48, 49, 13, 14, 50, 51, 982, 953, 954, 955, 956, 957, 958, 959] (by decide +kernel) (by decide +kernel)) (goodIn_sub (fun _ h => List.mem_append_left _ (List.mem_append_left _ (List.mem_append_left _ (List.mem_append_left _ (List.mem_append_left _ (List.mem_append_right _ h)))))) (by decide +kernel))) (goodIn_sub (fun _ h => List.mem_append_left _ (List.mem_append_left _ (List.mem_append_left _ (List.mem_append_left _ (List.mem_append_right _ h))))) (by decide +kernel))) (goodIn_sub (fun _ h => List.mem_append_left _ (List.mem_append_left _ (List.mem_append_left _ (List.mem_append_right _ h)))) (by decide +kernel))
set_option maxRecDepth 20000 in
theorem gL_law_L_makeBytes : GoodIn wsL_law (va_wsS RL 180 yL_makeBytes wsL_makeBytes) := goodIn_app (goodIn_of _ (by decide +kernel)) ggL_law_L_makeBytes
set_option maxRecDepth 20000 in
theorem ggL_law_X7_makeBytes : GoodIn wsL_law wsX7_makeBytes := goodIn_ca (goodIn_r _ [229, 92, 93, 91, 132, 133, 134, 5, 135, 136, 137, 138, 139, 140, 230, 231, 232, 233, 103, 234, 235, 236, 237, 960, 961, 962, 963, 964, 965, 966, 967, 968, 969, 970, 971, 972, 973, 974, 975, 976, 977, 978, 979, 980] (by decide +kernel) (by decide +kernel)) (goodIn_sub (fun _ h => List.mem_append_left _ (List.mem_append_left _ (List.mem_append_left _ (List.mem_append_left _ (List.mem_append_left _ (List.mem_append_right _ h)))))) (by decide +kernel))
set_option maxRecDepth 20000 in
theorem gL_law_X7_makeBytes : GoodIn wsL_law (wsV RL 183 RX7 yX7_makeBytes wsX7_makeBytes) := goodIn_app (goodIn_of _ (by decide +kernel)) ggL_law_X7_makeBytes
set_option maxRecDepth 20000 in
theorem ggL_law_L_putByte : GoodIn wsL_law wsL_putByte := goodIn_ca (goodIn_ca (goodIn_r _ [240, 113, 241, 242, 243, 2, 244, 221, 222, 223, 224, 225, 126, 127, 20, 164, 165, 166, 982, 953, 954, 955, 956, 957, 958, 959] (by decide +kernel) (by decide +kernel)) (goodIn_sub (fun _ h => List.mem_append_left _ (List.mem_append_left _ (List.mem_append_left _ (List.mem_append_left _ (List.mem_append_left _ (List.mem_append_right _ h)))))) (by decide +kernel))) (goodIn_sub (fun _ h => List.mem_append_left _ (List.mem_append_left _ (List.mem_append_left _ (List.mem_append_right _ h)))) (by decide +kernel))
set_option maxRecDepth 20000 in
theorem gL_law_L_putByte : GoodIn wsL_law (va_wsS RL 184 yL_putByte wsL_putByte) := goodIn_app (goodIn_of _ (by decide +kernel)) ggL_law_L_putByte
set_option maxRecDepth 20000 in
theorem ggL_law_X7_putByte : GoodIn wsL_law wsX7_putByte := goodIn_ca (goodIn_r _ [248, 93, 91, 249, 250, 251, 5, 252, 92, 132, 133, 134, 135, 136, 137, 138, 139, 140, 234, 235, 236, 237, 960, 961, 962, 963, 964, 965, 966, 967, 968, 969, 970, 971, 972, 973, 974, 975, 976, 977, 978, 979, 980] (by decide +kernel) (by decide +kernel)) (goodIn_sub (fun _ h => List.mem_append_left _ (List.mem_append_left _ (List.mem_append_left _ (List.mem_append_left _ (List.mem_append_left _ (List.mem_append_right _ h)))))) (by decide +kernel))
set_option maxRecDepth 20000 in
theorem gL_law_X7_putByte : GoodIn wsL_law (wsV RL 187 RX7 yX7_putByte wsX7_putByte) := goodIn_app (goodIn_of _ (by decide +kernel)) ggL_law_X7_putByte
set_option maxRecDepth 20000 in
theorem ggL_law_L_getByte : GoodIn wsL_law wsL_getByte := goodIn_ca (goodIn_ca (goodIn_r _ [255, 113, 256, 257, 258, 2, 259, 221, 222, 223, 224, 225, 126, 127, 20, 164, 165, 166, 982, 953, 954, 955, 956, 957, 958, 959] (by decide +kernel) (by decide +kernel)) (goodIn_sub (fun _ h => List.mem_append_left _ (List.mem_append_left _ (List.mem_append_left _ (List.mem_append_left _ (List.mem_append_left _ (List.mem_append_right _ h)))))) (by decide +kernel))) (goodIn_sub (fun _ h => List.mem_append_left _ (List.mem_append_left _ (List.mem_append_left _ (List.mem_append_right _ h)))) (by decide +kernel))
set_option maxRecDepth 20000 in
theorem gL_law_L_getByte : GoodIn wsL_law (va_wsS RL 188 yL_getByte wsL_getByte) := goodIn_app (goodIn_of _ (by decide +kernel)) ggL_law_L_getByte
set_option maxRecDepth 20000 in
theorem ggL_law_X7_getByte : GoodIn wsL_law wsX7_getByte := goodIn_ca (goodIn_r _ [263, 91, 93, 249, 250, 251, 5, 252, 92, 132, 133, 134, 135, 136, 137, 138, 139, 140, 960, 961, 962, 963, 964, 965, 966, 967, 968, 969, 970, 971, 972, 973, 974, 975, 976, 977, 978, 979, 980] (by decide +kernel) (by decide +kernel)) (goodIn_sub (fun _ h => List.mem_append_left _ (List.mem_append_left _ (List.mem_append_left _ (List.mem_append_left _ (List.mem_append_left _ (List.mem_append_right _ h)))))) (by decide +kernel))
set_option maxRecDepth 20000 in
theorem gL_law_X7_getByte : GoodIn wsL_law (wsV RL 190 RX7 yX7_getByte wsX7_getByte) := goodIn_app (goodIn_of _ (by decide +kernel)) ggL_law_X7_getByte
set_option maxRecDepth 20000 in
theorem ggL_law_L_begin : GoodIn wsL_law wsL_begin := goodIn_ca (goodIn_ca (goodIn_r _ [266, 113, 267, 268, 269, 2, 270, 271, 272, 273, 274, 126, 127, 24, 275, 276, 277, 27, 278, 279, 953, 954, 955, 956, 957, 958, 959, 983, 984] (by decide +kernel) (by decide +kernel)) (goodIn_sub (fun _ h => List.mem_append_left _ (List.mem_append_left _ (List.mem_append_left _ (List.mem_append_left _ (List.mem_append_left _ (List.mem_append_right _ h)))))) (by decide +kernel))) (goodIn_sub (fun _ h => List.mem_append_left _ (List.mem_append_left _ (List.mem_append_left _ (List.mem_append_right _ h)))) (by decide +kernel))
set_option maxRecDepth 20000 in
theorem gL_law_L_begin : GoodIn wsL_law (va_wsS RL 191 yL_begin wsL_begin) := goodIn_app (goodIn_of _ (by decide +kernel)) ggL_law_L_begin
set_option maxRecDepth 20000 in
theorem ggL_law_X7_begin : GoodIn wsL_law wsX7_begin := goodIn_ca (goodIn_r _ [283, 284, 285, 286, 5, 287, 136, 137, 138, 139, 140, 288, 289, 290, 291, 95, 960, 961, 962, 963, 964, 965, 966, 967, 968, 969, 970, 971, 972, 973, 974, 975, 976, 977, 978, 979, 980] (by decide +kernel) (by decide +kernel)) (goodIn_sub (fun _ h => List.mem_append_left _ (List.mem_append_left _ (List.mem_append_left _ (List.mem_append_left _ (List.mem_append_left _ (List.mem_append_right _ h)))))) (by decide +kernel))
set_option maxRecDepth 20000 in
theorem gL_law_X7_begin : GoodIn wsL_law (wsV RL 193 RX7 yX7_begin wsX7_begin) := goodIn_app (goodIn_of _ (by decide +kernel)) ggL_law_X7_begin
set_option maxRecDepth 20000 in
theorem ggL_law_L_write : GoodIn wsL_law wsL_write := goodIn_ca (goodIn_ca (goodIn_ca (goodIn_r _ [294, 113, 295, 296, 297, 298, 2, 299, 271, 272, 273, 274, 126, 127, 24, 300, 301, 302, 303, 304, 305, 306, 307, 308, 167, 168, 169, 309, 310, 311, 27, 312, 55, 279, 953, 954, 955, 956, 957, 958, 959, 983, 984] (by decide +kernel) (by decide +kernel)) (goodIn_sub (fun _ h => List.mem_append_left _ (List.mem_append_left _ (List.mem_append_left _ (List.mem_append_left _ (List.mem_append_left _ (List.mem_append_right _ h)))))) (by decide +kernel))) (goodIn_sub (fun _ h => List.mem_append_left _ (List.mem_append_left _ (List.mem_append_left _ (List.mem_append_right _ h)))) (by decide +kernel))) (goodIn_sub (fun _ h => List.mem_append_left _ (List.mem_append_left _ (List.mem_append_right _ h))) (by decide +kernel))
set_option maxRecDepth 20000 in
theorem gL_law_L_write : GoodIn wsL_law (va_wsS RL 194 yL_write wsL_write) := goodIn_app (goodIn_of _ (by decide +kernel)) ggL_law_L_write
set_option maxRecDepth 20000 in
theorem ggL_law_X7_write : GoodIn wsL_law wsX7_write := goodIn_ca (goodIn_r _ [316, 317, 318, 319, 5, 320, 95, 284, 285, 286, 287, 321, 322, 323, 324, 136, 137, 138, 139, 140, 325, 326, 327, 328, 94, 960, 961, 962, 963, 964, 965, 966, 967, 968, 969, 970, 971, 972, 973, 974, 975, 976, 977, 978, 979, 980] (by decide +kernel) (by decide +kernel)) (goodIn_sub (fun _ h => List.mem_append_left _ (List.mem_append_left _ (List.mem_append_left _ (List.mem_append_left _ (List.mem_append_left _ (List.mem_append_right _ h)))))) (by decide +kernel))
set_option maxRecDepth 20000 in
theorem gL_law_X7_write : GoodIn wsL_law (wsV RL 196 RX7 yX7_write wsX7_write) := goodIn_app (goodIn_of _ (by decide +kernel)) ggL_law_X7_write
set_option maxRecDepth 20000 in
theorem ggL_law_L_writeText : GoodIn wsL_law wsL_writeText := goodIn_ca (goodIn_ca (goodIn_ca (goodIn_r _ [331, 113, 295, 332, 333, 334, 2, 335, 271, 272, 273, 274, 126, 127, 24, 336, 337, 338, 339, 121, 303, 122, 123, 124, 125, 16, 185, 186, 187, 304, 305, 306, 307, 308, 340, 341, 342, 27, 343, 55, 279, 953, 954, 955, 956, 957, 958, 959, 981, 983, 984] (by decide +kernel) (by decide +kernel)) (goodIn_sub (fun _ h => List.mem_append_left _ (List.mem_append_left _ (List.mem_append_left _ (List.mem_append_left _ (List.mem_append_left _ (List.mem_append_right _ h)))))) (by decide +kernel))) (goodIn_sub (fun _ h => List.mem_append_left _ (List.mem_append_left _ (List.mem_append_left _ (List.mem_append_right _ h)))) (by decide +kernel))) (goodIn_sub (fun _ h => List.mem_append_left _ (List.mem_append_left _ (List.mem_append_right _ h))) (by decide +kernel))
set_option maxRecDepth 20000 in
theorem gL_law_L_writeText : GoodIn wsL_law (va_wsS RL 197 yL_writeText wsL_writeText) := goodIn_app (goodIn_of _ (by decide +kernel)) ggL_law_L_writeText
set_option maxRecDepth 20000 in
theorem ggL_law_X7_writeText : GoodIn wsL_law wsX7_writeText := goodIn_ca (goodIn_r _ [347, 348, 349, 350, 5, 351, 88, 90, 95, 284, 285, 286, 287, 174, 175, 176, 177, 132, 133, 134, 135, 141, 142, 143, 144, 89, 321, 322, 323, 324, 136, 137, 138, 139, 140, 325, 326, 327, 328, 94, 960, 961, 962, 963, 964, 965, 966, 967, 968, 969, 970, 971, 972, 973, 974, 975, 976, 977, 978, 979, 980] (by decide +kernel) (by decide +kernel)) (goodIn_sub (fun _ h => List.mem_append_left _ (List.mem_append_left _ (List.mem_append_left _ (List.mem_append_left _ (List.mem_append_left _ (List.mem_append_right _ h)))))) (by decide +kernel))
set_option maxRecDepth 20000 in
theorem gL_law_X7_writeText : GoodIn wsL_law (wsV RL 199 RX7 yX7_writeText wsX7_writeText) := goodIn_app (goodIn_of _ (by decide +kernel)) ggL_law_X7_writeText
set_option maxRecDepth 20000 in
theorem ggL_law_L_writeSigns : GoodIn wsL_law wsL_writeSigns := goodIn_ca (goodIn_ca (goodIn_ca (goodIn_r _ [354, 113, 295, 355, 356, 357, 2, 358, 271, 272, 273, 274, 126, 127, 24, 336, 337, 338, 339, 121, 303, 122, 123, 124, 125, 16, 185, 186, 187, 304, 305, 306, 307, 308, 340, 341, 342, 27, 343, 55, 279, 953, 954, 955, 956, 957, 958, 959, 981, 983, 984] (by decide +kernel) (by decide +kernel)) (goodIn_sub (fun _ h => List.mem_append_left _ (List.mem_append_left _ (List.mem_append_left _ (List.mem_append_left _ (List.mem_append_left _ (List.mem_append_right _ h)))))) (by decide +kernel))) (goodIn_sub (fun _ h => List.mem_append_left _ (List.mem_append_left _ (List.mem_append_left _ (List.mem_append_right _ h)))) (by decide +kernel))) (goodIn_sub (fun _ h => List.mem_append_left _ (List.mem_append_left _ (List.mem_append_right _ h))) (by decide +kernel))
set_option maxRecDepth 20000 in
theorem gL_law_L_writeSigns : GoodIn wsL_law (va_wsS RL 200 yL_writeSigns wsL_writeSigns) := goodIn_app (goodIn_of _ (by decide +kernel)) ggL_law_L_writeSigns
set_option maxRecDepth 20000 in
theorem ggL_law_X7_writeSigns : GoodIn wsL_law wsX7_writeSigns := goodIn_ca (goodIn_r _ [362, 348, 349, 350, 5, 351, 88, 90, 95, 284, 285, 286, 287, 174, 175, 176, 177, 132, 133, 134, 135, 141, 142, 143, 144, 89, 321, 322, 323, 324, 136, 137, 138, 139, 140, 325, 326, 327, 328, 94, 960, 961, 962, 963, 964, 965, 966, 967, 968, 969, 970, 971, 972, 973, 974, 975, 976, 977, 978, 979, 980] (by decide +kernel) (by decide +kernel)) (goodIn_sub (fun _ h => List.mem_append_left _ (List.mem_append_left _ (List.mem_append_left _ (List.mem_append_left _ (List.mem_append_left _ (List.mem_append_right _ h)))))) (by decide +kernel))
set_option maxRecDepth 20000 in
theorem gL_law_X7_writeSigns : GoodIn wsL_law (wsV RL 202 RX7 yX7_writeSigns wsX7_writeSigns) := goodIn_app (goodIn_of _ (by decide +kernel)) ggL_law_X7_writeSigns
set_option maxRecDepth 20000 in
theorem ggL_law_L_append : GoodIn wsL_law wsL_append := goodIn_ca (goodIn_ca (goodIn_ca (goodIn_r _ [365, 113, 295, 366, 367, 368, 2, 369, 271, 272, 273, 274, 126, 127, 24, 300, 301, 302, 303, 304, 305, 306, 307, 308, 167, 168, 169, 309, 310, 311, 27, 312, 55, 279, 953, 954, 955, 956, 957, 958, 959, 983, 984] (by decide +kernel) (by decide +kernel)) (goodIn_sub (fun _ h => List.mem_append_left _ (List.mem_append_left _ (List.mem_append_left _ (List.mem_append_left _ (List.mem_append_left _ (List.mem_append_right _ h)))))) (by decide +kernel))) (goodIn_sub (fun _ h => List.mem_append_left _ (List.mem_append_left _ (List.mem_append_left _ (List.mem_append_right _ h)))) (by decide +kernel))) (goodIn_sub (fun _ h => List.mem_append_left _ (List.mem_append_left _ (List.mem_append_right _ h))) (by decide +kernel))
set_option maxRecDepth 20000 in
theorem gL_law_L_append : GoodIn wsL_law (va_wsS RL 203 yL_append wsL_append) := goodIn_app (goodIn_of _ (by decide +kernel)) ggL_law_L_append
set_option maxRecDepth 20000 in
theorem ggL_law_X7_append : GoodIn wsL_law wsX7_append := goodIn_ca (goodIn_r _ [373, 317, 318, 319, 5, 320, 95, 284, 285, 286, 287, 321, 322, 323, 324, 136, 137, 138, 139, 140, 325, 326, 327, 328, 94, 960, 961, 962, 963, 964, 965, 966, 967, 968, 969, 970, 971, 972, 973, 974, 975, 976, 977, 978, 979, 980] (by decide +kernel) (by decide +kernel)) (goodIn_sub (fun _ h => List.mem_append_left _ (List.mem_append_left _ (List.mem_append_left _ (List.mem_append_left _ (List.mem_append_left _ (List.mem_append_right _ h)))))) (by decide +kernel))
set_option maxRecDepth 20000 in
theorem gL_law_X7_append : GoodIn wsL_law (wsV RL 206 RX7 yX7_append wsX7_append) := goodIn_app (goodIn_of _ (by decide +kernel)) ggL_law_X7_append
set_option maxRecDepth 20000 in
theorem ggL_law_L_size : GoodIn wsL_law wsL_size := goodIn_ca (goodIn_ca (goodIn_r _ [376, 113, 377, 378, 379, 2, 380, 303, 271, 272, 273, 274, 126, 127, 24, 983, 984, 953, 954, 955, 956, 957, 958, 959] (by decide +kernel) (by decide +kernel)) (goodIn_sub (fun _ h => List.mem_append_left _ (List.mem_append_left _ (List.mem_append_left _ (List.mem_append_left _ (List.mem_append_left _ (List.mem_append_right _ h)))))) (by decide +kernel))) (goodIn_sub (fun _ h => List.mem_append_left _ (List.mem_append_left _ (List.mem_append_left _ (List.mem_append_right _ h)))) (by decide +kernel))
set_option maxRecDepth 20000 in
theorem gL_law_L_size : GoodIn wsL_law (va_wsS RL 207 yL_size wsL_size) := goodIn_app (goodIn_of _ (by decide +kernel)) ggL_law_L_size
set_option maxRecDepth 20000 in
theorem ggL_law_X7_size : GoodIn wsL_law wsX7_size := goodIn_ca (goodIn_r _ [384, 95, 284, 285, 286, 5, 287, 136, 137, 138, 139, 140, 960, 961, 962, 963, 964, 965, 966, 967, 968, 969, 970, 971, 972, 973, 974, 975, 976, 977, 978, 979, 980] (by decide +kernel) (by decide +kernel)) (goodIn_sub (fun _ h => List.mem_append_left _ (List.mem_append_left _ (List.mem_append_left _ (List.mem_append_left _ (List.mem_append_left _ (List.mem_append_right _ h)))))) (by decide +kernel))
set_option maxRecDepth 20000 in
theorem gL_law_X7_size : GoodIn wsL_law (wsV RL 209 RX7 yX7_size wsX7_size) := goodIn_app (goodIn_of _ (by decide +kernel)) ggL_law_X7_size
set_option maxRecDepth 20000 in
theorem ggL_law_L_take : GoodIn wsL_law wsL_take := goodIn_ca (goodIn_ca (goodIn_r _ [387, 113, 388, 389, 390, 2, 391, 271, 272, 273, 274, 126, 127, 24, 392, 393, 394, 395, 15, 17, 18, 303, 121, 16, 122, 123, 124, 125, 40, 41, 42, 43, 13, 14, 44, 45, 396, 397, 398, 27, 399, 279, 55, 953, 954, 955, 956, 957, 958, 959, 981, 983, 984] (by decide +kernel) (by decide +kernel)) (goodIn_sub (fun _ h => List.mem_append_left _ (List.mem_append_left _ (List.mem_append_left _ (List.mem_append_left _ (List.mem_append_left _ (List.mem_append_right _ h)))))) (by decide +kernel))) (goodIn_sub (fun _ h => List.mem_append_left _ (List.mem_append_left _ (List.mem_append_left _ (List.mem_append_right _ h)))) (by decide +kernel))
set_option maxRecDepth 20000 in
theorem gL_law_L_take : GoodIn wsL_law (va_wsS RL 210 yL_take wsL_take) := goodIn_app (goodIn_of _ (by decide +kernel)) ggL_law_L_take
set_option maxRecDepth 20000 in
theorem ggL_law_X7_take : GoodIn wsL_law wsX7_take := goodIn_ca (goodIn_r _ [403, 404, 405, 406, 5, 407, 95, 108, 94, 284, 285, 286, 287, 132, 133, 134, 135, 136, 137, 138, 139, 140, 145, 146, 147, 148, 88, 89, 90, 149, 150, 151, 152, 96, 960, 961, 962, 963, 964, 965, 966, 967, 968, 969, 970, 971, 972, 973, 974, 975, 976, 977, 978, 979, 980] (by decide +kernel) (by decide +kernel)) (goodIn_sub (fun _ h => List.mem_append_left _ (List.mem_append_left _ (List.mem_append_left _ (List.mem_append_left _ (List.mem_append_left _ (List.mem_append_right _ h)))))) (by decide +kernel))
set_option maxRecDepth 20000 in
theorem gL_law_X7_take : GoodIn wsL_law (wsV RL 212 RX7 yX7_take wsX7_take) := goodIn_app (goodIn_of _ (by decide +kernel)) ggL_law_X7_take
set_option maxRecDepth 20000 in
theorem ggL_law_L_empty : GoodIn wsL_law wsL_empty := goodIn_ca (goodIn_ca (goodIn_r _ [410, 113, 411, 412, 413, 2, 414, 415, 416, 417, 418, 126, 127, 25, 275, 276, 277, 27, 278, 279, 953, 954, 955, 956, 957, 958, 959, 983, 984] (by decide +kernel) (by decide +kernel)) (goodIn_sub (fun _ h => List.mem_append_left _ (List.mem_append_left _ (List.mem_append_left _ (List.mem_append_left _ (List.mem_append_left _ (List.mem_append_right _ h)))))) (by decide +kernel))) (goodIn_sub (fun _ h => List.mem_append_left _ (List.mem_append_left _ (List.mem_append_left _ (List.mem_append_right _ h)))) (by decide +kernel))
set_option maxRecDepth 20000 in
theorem gL_law_L_empty : GoodIn wsL_law (va_wsS RL 213 yL_empty wsL_empty) := goodIn_app (goodIn_of _ (by decide +kernel)) ggL_law_L_empty
set_option maxRecDepth 20000 in
theorem ggL_law_X7_empty : GoodIn wsL_law wsX7_empty := goodIn_ca (goodIn_r _ [422, 284, 285, 286, 5, 287, 136, 137, 138, 139, 140, 288, 289, 290, 291, 95, 960, 961, 962, 963, 964, 965, 966, 967, 968, 969, 970, 971, 972, 973, 974, 975, 976, 977, 978, 979, 980] (by decide +kernel) (by decide +kernel)) (goodIn_sub (fun _ h => List.mem_append_left _ (List.mem_append_left _ (List.mem_append_left _ (List.mem_append_left _ (List.mem_append_left _ (List.mem_append_right _ h)))))) (by decide +kernel))
set_option maxRecDepth 20000 in
theorem gL_law_X7_empty : GoodIn wsL_law (wsV RL 215 RX7 yX7_empty wsX7_empty) := goodIn_app (goodIn_of _ (by decide +kernel)) ggL_law_X7_empty
set_option maxRecDepth 20000 in
theorem ggL_law_L_arrayWrite : GoodIn wsL_law wsL_arrayWrite := goodIn_ca (goodIn_ca (goodIn_ca (goodIn_r _ [425, 113, 295, 426, 427, 428, 2, 429, 415, 416, 417, 418, 126, 127, 25, 300, 301, 302, 303, 304, 305, 306, 307, 308, 167, 168, 169, 309, 310, 311, 27, 312, 55, 279, 953, 954, 955, 956, 957, 958, 959, 983, 984] (by decide +kernel) (by decide +kernel)) (goodIn_sub (fun _ h => List.mem_append_left _ (List.mem_append_left _ (List.mem_append_left _ (List.mem_append_left _ (List.mem_append_left _ (List.mem_append_right _ h)))))) (by decide +kernel))) (goodIn_sub (fun _ h => List.mem_append_left _ (List.mem_append_left _ (List.mem_append_left _ (List.mem_append_right _ h)))) (by decide +kernel))) (goodIn_sub (fun _ h => List.mem_append_left _ (List.mem_append_left _ (List.mem_append_right _ h))) (by decide +kernel))
set_option maxRecDepth 20000 in
theorem gL_law_L_arrayWrite : GoodIn wsL_law (va_wsS RL 216 yL_arrayWrite wsL_arrayWrite) := goodIn_app (goodIn_of _ (by decide +kernel)) ggL_law_L_arrayWrite
set_option maxRecDepth 20000 in
theorem ggL_law_X7_arrayWrite : GoodIn wsL_law wsX7_arrayWrite := goodIn_ca (goodIn_r _ [433, 317, 318, 319, 5, 320, 95, 284, 285, 286, 287, 321, 322, 323, 324, 136, 137, 138, 139, 140, 325, 326, 327, 328, 94, 960, 961, 962, 963, 964, 965, 966, 967, 968, 969, 970, 971, 972, 973, 974, 975, 976, 977, 978, 979, 980] (by decide +kernel) (by decide +kernel)) (goodIn_sub (fun _ h => List.mem_append_left _ (List.mem_append_left _ (List.mem_append_left _ (List.mem_append_left _ (List.mem_append_left _ (List.mem_append_right _ h)))))) (by decide +kernel))
set_option maxRecDepth 20000 in
theorem gL_law_X7_arrayWrite : GoodIn wsL_law (wsV RL 218 RX7 yX7_arrayWrite wsX7_arrayWrite) := goodIn_app (goodIn_of _ (by decide +kernel)) ggL_law_X7_arrayWrite
set_option maxRecDepth 20000 in
theorem ggL_law_L_arrayText : GoodIn wsL_law wsL_arrayText := goodIn_ca (goodIn_ca (goodIn_ca (goodIn_r _ [436, 113, 295, 437, 438, 439, 2, 440, 415, 416, 417, 418, 126, 127, 25, 336, 337, 338, 339, 121, 303, 122, 123, 124, 125, 16, 185, 186, 187, 304, 305, 306, 307, 308, 340, 341, 342, 27, 343, 55, 279, 953, 954, 955, 956, 957, 958, 959, 981, 983, 984] (by decide +kernel) (by decide +kernel)) (goodIn_sub (fun _ h => List.mem_append_left _ (List.mem_append_left _ (List.mem_append_left _ (List.mem_append_left _ (List.mem_append_left _ (List.mem_append_right _ h)))))) (by decide +kernel))) (goodIn_sub (fun _ h => List.mem_append_left _ (List.mem_append_left _ (List.mem_append_left _ (List.mem_append_right _ h)))) (by decide +kernel))) (goodIn_sub (fun _ h => List.mem_append_left _ (List.mem_append_left _ (List.mem_append_right _ h))) (by decide +kernel))
set_option maxRecDepth 20000 in
theorem gL_law_L_arrayText : GoodIn wsL_law (va_wsS RL 219 yL_arrayText wsL_arrayText) := goodIn_app (goodIn_of _ (by decide +kernel)) ggL_law_L_arrayText
set_option maxRecDepth 20000 in
theorem ggL_law_X7_arrayText : GoodIn wsL_law wsX7_arrayText := goodIn_ca (goodIn_r _ [444, 348, 349, 350, 5, 351, 88, 90, 95, 284, 285, 286, 287, 174, 175, 176, 177, 132, 133, 134, 135, 141, 142, 143, 144, 89, 321, 322, 323, 324, 136, 137, 138, 139, 140, 325, 326, 327, 328, 94, 960, 961, 962, 963, 964, 965, 966, 967, 968, 969, 970, 971, 972, 973, 974, 975, 976, 977, 978, 979, 980] (by decide +kernel) (by decide +kernel)) (goodIn_sub (fun _ h => List.mem_append_left _ (List.mem_append_left _ (List.mem_append_left _ (List.mem_append_left _ (List.mem_append_left _ (List.mem_append_right _ h)))))) (by decide +kernel))
set_option maxRecDepth 20000 in
theorem gL_law_X7_arrayText : GoodIn wsL_law (wsV RL 221 RX7 yX7_arrayText wsX7_arrayText) := goodIn_app (goodIn_of _ (by decide +kernel)) ggL_law_X7_arrayText
set_option maxRecDepth 20000 in
theorem ggL_law_L_arraySigns : GoodIn wsL_law wsL_arraySigns := goodIn_ca (goodIn_ca (goodIn_ca (goodIn_r _ [447, 113, 295, 448, 449, 450, 2, 451, 415, 416, 417, 418, 126, 127, 25, 336, 337, 338, 339, 121, 303, 122, 123, 124, 125, 16, 185, 186, 187, 304, 305, 306, 307, 308, 340, 341, 342, 27, 343, 55, 279, 953, 954, 955, 956, 957, 958, 959, 981, 983, 984] (by decide +kernel) (by decide +kernel)) (goodIn_sub (fun _ h => List.mem_append_left _ (List.mem_append_left _ (List.mem_append_left _ (List.mem_append_left _ (List.mem_append_left _ (List.mem_append_right _ h)))))) (by decide +kernel))) (goodIn_sub (fun _ h => List.mem_append_left _ (List.mem_append_left _ (List.mem_append_left _ (List.mem_append_right _ h)))) (by decide +kernel))) (goodIn_sub (fun _ h => List.mem_append_left _ (List.mem_append_left _ (List.mem_append_right _ h))) (by decide +kernel))
set_option maxRecDepth 20000 in
theorem gL_law_L_arraySigns : GoodIn wsL_law (va_wsS RL 222 yL_arraySigns wsL_arraySigns) := goodIn_app (goodIn_of _ (by decide +kernel)) ggL_law_L_arraySigns
set_option maxRecDepth 20000 in
theorem ggL_law_X7_arraySigns : GoodIn wsL_law wsX7_arraySigns := goodIn_ca (goodIn_r _ [455, 348, 349, 350, 5, 351, 88, 90, 95, 284, 285, 286, 287, 174, 175, 176, 177, 132, 133, 134, 135, 141, 142, 143, 144, 89, 321, 322, 323, 324, 136, 137, 138, 139, 140, 325, 326, 327, 328, 94, 960, 961, 962, 963, 964, 965, 966, 967, 968, 969, 970, 971, 972, 973, 974, 975, 976, 977, 978, 979, 980] (by decide +kernel) (by decide +kernel)) (goodIn_sub (fun _ h => List.mem_append_left _ (List.mem_append_left _ (List.mem_append_left _ (List.mem_append_left _ (List.mem_append_left _ (List.mem_append_right _ h)))))) (by decide +kernel))
set_option maxRecDepth 20000 in
theorem gL_law_X7_arraySigns : GoodIn wsL_law (wsV RL 224 RX7 yX7_arraySigns wsX7_arraySigns) := goodIn_app (goodIn_of _ (by decide +kernel)) ggL_law_X7_arraySigns
set_option maxRecDepth 20000 in
theorem ggL_law_L_arrayAppend : GoodIn wsL_law wsL_arrayAppend := goodIn_ca (goodIn_ca (goodIn_ca (goodIn_r _ [458, 113, 295, 459, 460, 461, 2, 462, 415, 416, 417, 418, 126, 127, 25, 300, 301, 302, 303, 304, 305, 306, 307, 308, 167, 168, 169, 309, 310, 311, 27, 312, 55, 279, 953, 954, 955, 956, 957, 958, 959, 983, 984] (by decide +kernel) (by decide +kernel)) (goodIn_sub (fun _ h => List.mem_append_left _ (List.mem_append_left _ (List.mem_append_left _ (List.mem_append_left _ (List.mem_append_left _ (List.mem_append_right _ h)))))) (by decide +kernel))) (goodIn_sub (fun _ h => List.mem_append_left _ (List.mem_append_left _ (List.mem_append_left _ (List.mem_append_right _ h)))) (by decide +kernel))) (goodIn_sub (fun _ h => List.mem_append_left _ (List.mem_append_left _ (List.mem_append_right _ h))) (by decide +kernel))
set_option maxRecDepth 20000 in
theorem gL_law_L_arrayAppend : GoodIn wsL_law (va_wsS RL 225 yL_arrayAppend wsL_arrayAppend) := goodIn_app (goodIn_of _ (by decide +kernel)) ggL_law_L_arrayAppend
set_option maxRecDepth 20000 in
theorem ggL_law_X7_arrayAppend : GoodIn wsL_law wsX7_arrayAppend := goodIn_ca (goodIn_r _ [466, 317, 318, 319, 5, 320, 95, 284, 285, 286, 287, 321, 322, 323, 324, 136, 137, 138, 139, 140, 325, 326, 327, 328, 94, 960, 961, 962, 963, 964, 965, 966, 967, 968, 969, 970, 971, 972, 973, 974, 975, 976, 977, 978, 979, 980] (by decide +kernel) (by decide +kernel)) (goodIn_sub (fun _ h => List.mem_append_left _ (List.mem_append_left _ (List.mem_append_left _ (List.mem_append_left _ (List.mem_append_left _ (List.mem_append_right _ h)))))) (by decide +kernel))
set_option maxRecDepth 20000 in
theorem gL_law_X7_arrayAppend : GoodIn wsL_law (wsV RL 227 RX7 yX7_arrayAppend wsX7_arrayAppend) := goodIn_app (goodIn_of _ (by decide +kernel)) ggL_law_X7_arrayAppend
set_option maxRecDepth 20000 in
theorem ggL_law_L_arraySize : GoodIn wsL_law wsL_arraySize := goodIn_ca (goodIn_ca (goodIn_r _ [469, 113, 470, 471, 472, 2, 473, 303, 415, 416, 417, 418, 126, 127, 25, 983, 984, 953, 954, 955, 956, 957, 958, 959] (by decide +kernel) (by decide +kernel)) (goodIn_sub (fun _ h => List.mem_append_left _ (List.mem_append_left _ (List.mem_append_left _ (List.mem_append_left _ (List.mem_append_left _ (List.mem_append_right _ h)))))) (by decide +kernel))) (goodIn_sub (fun _ h => List.mem_append_left _ (List.mem_append_left _ (List.mem_append_left _ (List.mem_append_right _ h)))) (by decide +kernel))
set_option maxRecDepth 20000 in
theorem gL_law_L_arraySize : GoodIn wsL_law (va_wsS RL 228 yL_arraySize wsL_arraySize) := goodIn_app (goodIn_of _ (by decide +kernel)) ggL_law_L_arraySize
set_option maxRecDepth 20000 in
theorem ggL_law_X7_arraySize : GoodIn wsL_law wsX7_arraySize := goodIn_ca (goodIn_r _ [477, 95, 284, 285, 286, 5, 287, 136, 137, 138, 139, 140, 960, 961, 962, 963, 964, 965, 966, 967, 968, 969, 970, 971, 972, 973, 974, 975, 976, 977, 978, 979, 980] (by decide +kernel) (by decide +kernel)) (goodIn_sub (fun _ h => List.mem_append_left _ (List.mem_append_left _ (List.mem_append_left _ (List.mem_append_left _ (List.mem_append_left _ (List.mem_append_right _ h)))))) (by decide +kernel))
set_option maxRecDepth 20000 in
theorem gL_law_X7_arraySize : GoodIn wsL_law (wsV RL 230 RX7 yX7_arraySize wsX7_arraySize) := goodIn_app (goodIn_of _ (by decide +kernel)) ggL_law_X7_arraySize
set_option maxRecDepth 20000 in
theorem ggL_law_L_arrayTake : GoodIn wsL_law wsL_arrayTake := goodIn_ca (goodIn_ca (goodIn_r _ [480, 113, 481, 482, 483, 2, 484, 415, 416, 417, 418, 126, 127, 25, 392, 393, 394, 395, 15, 17, 18, 303, 121, 16, 122, 123, 124, 125, 40, 41, 42, 43, 13, 14, 44, 45, 396, 397, 398, 27, 399, 279, 55, 953, 954, 955, 956, 957, 958, 959, 981, 983, 984] (by decide +kernel) (by decide +kernel)) (goodIn_sub (fun _ h => List.mem_append_left _ (List.mem_append_left _ (List.mem_append_left _ (List.mem_append_left _ (List.mem_append_left _ (List.mem_append_right _ h)))))) (by decide +kernel))) (goodIn_sub (fun _ h => List.mem_append_left _ (List.mem_append_left _ (List.mem_append_left _ (List.mem_append_right _ h)))) (by decide +kernel))
set_option maxRecDepth 20000 in
theorem gL_law_L_arrayTake : GoodIn wsL_law (va_wsS RL 231 yL_arrayTake wsL_arrayTake) := goodIn_app (goodIn_of _ (by decide +kernel)) ggL_law_L_arrayTake
set_option maxRecDepth 20000 in
theorem ggL_law_X7_arrayTake : GoodIn wsL_law wsX7_arrayTake := goodIn_ca (goodIn_r _ [488, 404, 405, 406, 5, 407, 95, 108, 94, 284, 285, 286, 287, 132, 133, 134, 135, 136, 137, 138, 139, 140, 145, 146, 147, 148, 88, 89, 90, 149, 150, 151, 152, 96, 960, 961, 962, 963, 964, 965, 966, 967, 968, 969, 970, 971, 972, 973, 974, 975, 976, 977, 978, 979, 980] (by decide +kernel) (by decide +kernel)) (goodIn_sub (fun _ h => List.mem_append_left _ (List.mem_append_left _ (List.mem_append_left _ (List.mem_append_left _ (List.mem_append_left _ (List.mem_append_right _ h)))))) (by decide +kernel))
set_option maxRecDepth 20000 in
theorem gL_law_X7_arrayTake : GoodIn wsL_law (wsV RL 233 RX7 yX7_arrayTake wsX7_arrayTake) := goodIn_app (goodIn_of _ (by decide +kernel)) ggL_law_X7_arrayTake
set_option maxRecDepth 20000 in
theorem ggL_law_L_pour : GoodIn wsL_law wsL_pour := goodIn_ca (goodIn_ca (goodIn_ca (goodIn_r _ [491, 113, 295, 492, 493, 494, 2, 495, 415, 416, 417, 418, 126, 127, 25, 271, 272, 273, 274, 24, 496, 497, 498, 303, 499, 304, 305, 306, 307, 308, 340, 341, 342, 27, 343, 55, 279, 953, 954, 955, 956, 957, 958, 959, 983, 984] (by decide +kernel) (by decide +kernel)) (goodIn_sub (fun _ h => List.mem_append_left _ (List.mem_append_left _ (List.mem_append_left _ (List.mem_append_left _ (List.mem_append_left _ (List.mem_append_right _ h)))))) (by decide +kernel))) (goodIn_sub (fun _ h => List.mem_append_left _ (List.mem_append_left _ (List.mem_append_left _ (List.mem_append_right _ h)))) (by decide +kernel))) (goodIn_sub (fun _ h => List.mem_append_left _ (List.mem_append_left _ (List.mem_append_right _ h))) (by decide +kernel))
set_option maxRecDepth 20000 in
theorem gL_law_L_pour : GoodIn wsL_law (va_wsS RL 234 yL_pour wsL_pour) := goodIn_app (goodIn_of _ (by decide +kernel)) ggL_law_L_pour
set_option maxRecDepth 20000 in
theorem ggL_law_X7_pour : GoodIn wsL_law wsX7_pour := goodIn_ca (goodIn_r _ [503, 95, 284, 285, 286, 5, 287, 321, 322, 323, 324, 136, 137, 138, 139, 140, 504, 505, 506, 507, 94, 325, 326, 327, 328, 960, 961, 962, 963, 964, 965, 966, 967, 968, 969, 970, 971, 972, 973, 974, 975, 976, 977, 978, 979, 980] (by decide +kernel) (by decide +kernel)) (goodIn_sub (fun _ h => List.mem_append_left _ (List.mem_append_left _ (List.mem_append_left _ (List.mem_append_left _ (List.mem_append_left _ (List.mem_append_right _ h)))))) (by decide +kernel))
set_option maxRecDepth 20000 in
theorem gL_law_X7_pour : GoodIn wsL_law (wsV RL 236 RX7 yX7_pour wsX7_pour) := goodIn_app (goodIn_of _ (by decide +kernel)) ggL_law_X7_pour
set_option maxRecDepth 20000 in
theorem ggL_law_L_pourOver : GoodIn wsL_law wsL_pourOver := goodIn_ca (goodIn_ca (goodIn_ca (goodIn_ca (goodIn_r _ [510, 113, 114, 295, 511, 512, 513, 2, 514, 119, 120, 415, 416, 417, 418, 126, 127, 25, 496, 497, 498, 303, 499, 304, 305, 306, 307, 308, 340, 341, 342, 27, 343, 55, 279, 953, 954, 955, 956, 957, 958, 959, 983, 984] (by decide +kernel) (by decide +kernel)) (goodIn_sub (fun _ h => List.mem_append_left _ (List.mem_append_left _ (List.mem_append_left _ (List.mem_append_left _ (List.mem_append_left _ (List.mem_append_right _ h)))))) (by decide +kernel))) (goodIn_sub (fun _ h => List.mem_append_left _ (List.mem_append_left _ (List.mem_append_left _ (List.mem_append_left _ (List.mem_append_right _ h))))) (by decide +kernel))) (goodIn_sub (fun _ h => List.mem_append_left _ (List.mem_append_left _ (List.mem_append_left _ (List.mem_append_right _ h)))) (by decide +kernel))) (goodIn_sub (fun _ h => List.mem_append_left _ (List.mem_append_left _ (List.mem_append_right _ h))) (by decide +kernel))
set_option maxRecDepth 20000 in
theorem gL_law_L_pourOver : GoodIn wsL_law (va_wsS RL 237 yL_pourOver wsL_pourOver) := goodIn_app (goodIn_of _ (by decide +kernel)) ggL_law_L_pourOver
set_option maxRecDepth 20000 in
theorem ggL_law_X7_pourOver : GoodIn wsL_law wsX7_pourOver := goodIn_ca (goodIn_r _ [518, 95, 284, 285, 286, 5, 287, 321, 322, 323, 324, 136, 137, 138, 139, 140, 504, 505, 506, 507, 94, 325, 326, 327, 328, 960, 961, 962, 963, 964, 965, 966, 967, 968, 969, 970, 971, 972, 973, 974, 975, 976, 977, 978, 979, 980] (by decide +kernel) (by decide +kernel)) (goodIn_sub (fun _ h => List.mem_append_left _ (List.mem_append_left _ (List.mem_append_left _ (List.mem_append_left _ (List.mem_append_left _ (List.mem_append_right _ h)))))) (by decide +kernel))
set_option maxRecDepth 20000 in
theorem gL_law_X7_pourOver : GoodIn wsL_law (wsV RL 239 RX7 yX7_pourOver wsX7_pourOver) := goodIn_app (goodIn_of _ (by decide +kernel)) ggL_law_X7_pourOver
set_option maxRecDepth 20000 in
theorem ggL_law_L_areLike : GoodIn wsL_law wsL_areLike := goodIn_ca (goodIn_ca (goodIn_r _ [521, 113, 522, 523, 524, 2, 525, 271, 272, 273, 274, 126, 127, 24, 415, 416, 417, 418, 25, 526, 527, 528, 27, 529, 279, 55, 953, 954, 955, 956, 957, 958, 959, 983, 984] (by decide +kernel) (by decide +kernel)) (goodIn_sub (fun _ h => List.mem_append_left _ (List.mem_append_left _ (List.mem_append_left _ (List.mem_append_left _ (List.mem_append_left _ (List.mem_append_right _ h)))))) (by decide +kernel))) (goodIn_sub (fun _ h => List.mem_append_left _ (List.mem_append_left _ (List.mem_append_left _ (List.mem_append_right _ h)))) (by decide +kernel))
set_option maxRecDepth 20000 in
theorem gL_law_L_areLike : GoodIn wsL_law (va_wsS RL 240 yL_areLike wsL_areLike) := goodIn_app (goodIn_of _ (by decide +kernel)) ggL_law_L_areLike
set_option maxRecDepth 20000 in
theorem ggL_law_X7_areLike : GoodIn wsL_law wsX7_areLike := goodIn_ca (goodIn_r _ [533, 95, 94, 284, 285, 286, 5, 287, 136, 137, 138, 139, 140, 960, 961, 962, 963, 964, 965, 966, 967, 968, 969, 970, 971, 972, 973, 974, 975, 976, 977, 978, 979, 980] (by decide +kernel) (by decide +kernel)) (goodIn_sub (fun _ h => List.mem_append_left _ (List.mem_append_left _ (List.mem_append_left _ (List.mem_append_left _ (List.mem_append_left _ (List.mem_append_right _ h)))))) (by decide +kernel))
set_option maxRecDepth 20000 in
theorem gL_law_X7_areLike : GoodIn wsL_law (wsV RL 242 RX7 yX7_areLike wsX7_areLike) := goodIn_app (goodIn_of _ (by decide +kernel)) ggL_law_X7_areLike
set_option maxRecDepth 20000 in
theorem ggL_law_L_open : GoodIn wsL_law wsL_open := goodIn_ca (goodIn_ca (goodIn_ca (goodIn_r _ [536, 113, 114, 537, 538, 539, 2, 540, 121, 541, 542, 543, 544, 126, 127, 29, 122, 123, 124, 125, 16, 185, 186, 187, 545, 546, 547, 119, 120, 548, 549, 550, 551, 31, 552, 60, 553, 554, 555, 556, 557, 558, 559, 560, 561, 562, 563, 564, 565, 566, 981, 953, 954, 955, 956, 957, 958, 959, 985, 986, 987, 988, 989, 990] (by decide +kernel) (by decide +kernel)) (goodIn_sub (fun _ h => List.mem_append_left _ (List.mem_append_left _ (List.mem_append_left _ (List.mem_append_left _ (List.mem_append_left _ (List.mem_append_right _ h)))))) (by decide +kernel))) (goodIn_sub (fun _ h => List.mem_append_left _ (List.mem_append_left _ (List.mem_append_left _ (List.mem_append_right _ h)))) (by decide +kernel))) (goodIn_sub (fun _ h => List.mem_append_left _ (List.mem_append_left _ (List.mem_append_left _ (List.mem_append_left _ (List.mem_append_right _ h))))) (by decide +kernel))
set_option maxRecDepth 20000 in
theorem gL_law_L_open : GoodIn wsL_law (va_wsS RL 243 yL_open wsL_open) := goodIn_app (goodIn_of _ (by decide +kernel)) ggL_law_L_open
set_option maxRecDepth 20000 in
theorem ggL_law_X7_open : GoodIn wsL_law wsX7_open := goodIn_ca (goodIn_r _ [570, 98, 284, 285, 286, 5, 287, 174, 175, 176, 177, 132, 133, 134, 135, 141, 142, 143, 144, 89, 90, 136, 137, 138, 139, 140, 571, 572, 573, 574, 575, 576, 577, 578, 96, 97, 99, 101, 960, 961, 962, 963, 964, 965, 966, 967, 968, 969, 970, 971, 972, 973, 974, 975, 976, 977, 978, 979, 980] (by decide +kernel) (by decide +kernel)) (goodIn_sub (fun _ h => List.mem_append_left _ (List.mem_append_left _ (List.mem_append_left _ (List.mem_append_left _ (List.mem_append_left _ (List.mem_append_right _ h)))))) (by decide +kernel))
set_option maxRecDepth 20000 in
theorem gL_law_X7_open : GoodIn wsL_law (wsV RL 245 RX7 yX7_open wsX7_open) := goodIn_app (goodIn_of _ (by decide +kernel)) ggL_law_X7_open
set_option maxRecDepth 20000 in
theorem ggL_law_L_openAll : GoodIn wsL_law wsL_openAll := goodIn_ca (goodIn_ca (goodIn_r _ [581, 113, 582, 583, 584, 2, 585, 121, 541, 542, 543, 544, 126, 127, 29, 122, 123, 124, 125, 16, 549, 550, 551, 31, 552, 60, 553, 554, 555, 556, 557, 558, 559, 560, 561, 562, 563, 564, 565, 566, 981, 953, 954, 955, 956, 957, 958, 959, 985, 986, 987, 988, 989, 990] (by decide +kernel) (by decide +kernel)) (goodIn_sub (fun _ h => List.mem_append_left _ (List.mem_append_left _ (List.mem_append_left _ (List.mem_append_left _ (List.mem_append_left _ (List.mem_append_right _ h)))))) (by decide +kernel))) (goodIn_sub (fun _ h => List.mem_append_left _ (List.mem_append_left _ (List.mem_append_left _ (List.mem_append_right _ h)))) (by decide +kernel))
set_option maxRecDepth 20000 in
theorem gL_law_L_openAll : GoodIn wsL_law (va_wsS RL 246 yL_openAll wsL_openAll) := goodIn_app (goodIn_of _ (by decide +kernel)) ggL_law_L_openAll
set_option maxRecDepth 20000 in
theorem ggL_law_X7_openAll : GoodIn wsL_law wsX7_openAll := goodIn_ca (goodIn_r _ [589, 98, 284, 285, 286, 5, 287, 132, 133, 134, 135, 136, 137, 138, 139, 140, 141, 142, 143, 144, 89, 90, 575, 576, 577, 578, 96, 97, 99, 101, 960, 961, 962, 963, 964, 965, 966, 967, 968, 969, 970, 971, 972, 973, 974, 975, 976, 977, 978, 979, 980] (by decide +kernel) (by decide +kernel)) (goodIn_sub (fun _ h => List.mem_append_left _ (List.mem_append_left _ (List.mem_append_left _ (List.mem_append_left _ (List.mem_append_left _ (List.mem_append_right _ h)))))) (by decide +kernel))
set_option maxRecDepth 20000 in
theorem gL_law_X7_openAll : GoodIn wsL_law (wsV RL 248 RX7 yX7_openAll wsX7_openAll) := goodIn_app (goodIn_of _ (by decide +kernel)) ggL_law_X7_openAll
set_option maxRecDepth 20000 in
theorem ggL_law_L_shut : GoodIn wsL_law wsL_shut := goodIn_ca (goodIn_ca (goodIn_ca (goodIn_r _ [592, 113, 593, 594, 595, 596, 2, 597, 598, 599, 600, 601, 541, 542, 543, 544, 126, 127, 29, 563, 564, 565, 31, 566, 559, 553, 985, 986, 987, 988, 989, 990, 953, 954, 955, 956, 957, 958, 959] (by decide +kernel) (by decide +kernel)) (goodIn_sub (fun _ h => List.mem_append_left _ (List.mem_append_left _ (List.mem_append_left _ (List.mem_append_left _ (List.mem_append_left _ (List.mem_append_right _ h)))))) (by decide +kernel))) (goodIn_sub (fun _ h => List.mem_append_left _ (List.mem_append_right _ h)) (by decide +kernel))) (goodIn_sub (fun _ h => List.mem_append_left _ (List.mem_append_left _ (List.mem_append_left _ (List.mem_append_right _ h)))) (by decide +kernel))
set_option maxRecDepth 20000 in
theorem gL_law_L_shut : GoodIn wsL_law (va_wsS RL 249 yL_shut wsL_shut) := goodIn_app (goodIn_of _ (by decide +kernel)) ggL_law_L_shut
set_option maxRecDepth 20000 in
theorem ggL_law_X7_shut : GoodIn wsL_law wsX7_shut := goodIn_ca (goodIn_r _ [605, 96, 101, 98, 97, 284, 285, 286, 5, 287, 136, 137, 138, 139, 140, 960, 961, 962, 963, 964, 965, 966, 967, 968, 969, 970, 971, 972, 973, 974, 975, 976, 977, 978, 979, 980] (by decide +kernel) (by decide +kernel)) (goodIn_sub (fun _ h => List.mem_append_left _ (List.mem_append_left _ (List.mem_append_left _ (List.mem_append_left _ (List.mem_append_left _ (List.mem_append_right _ h)))))) (by decide +kernel))
set_option maxRecDepth 20000 in
theorem gL_law_X7_shut : GoodIn wsL_law (wsV RL 251 RX7 yX7_shut wsX7_shut) := goodIn_app (goodIn_of _ (by decide +kernel)) ggL_law_X7_shut
set_option maxRecDepth 20000 in
theorem ggL_law_L_read : GoodIn wsL_law wsL_read := goodIn_ca (goodIn_ca (goodIn_ca (goodIn_r _ [608, 113, 593, 609, 610, 611, 2, 612, 613, 614, 615, 616, 598, 599, 600, 601, 541, 542, 543, 544, 126, 127, 29, 617, 618, 619, 31, 620, 553, 559, 60, 554, 985, 986, 987, 988, 989, 990, 953, 954, 955, 956, 957, 958, 959, 981] (by decide +kernel) (by decide +kernel)) (goodIn_sub (fun _ h => List.mem_append_left _ (List.mem_append_left _ (List.mem_append_left _ (List.mem_append_left _ (List.mem_append_left _ (List.mem_append_right _ h)))))) (by decide +kernel))) (goodIn_sub (fun _ h => List.mem_append_left _ (List.mem_append_right _ h)) (by decide +kernel))) (goodIn_sub (fun _ h => List.mem_append_left _ (List.mem_append_left _ (List.mem_append_left _ (List.mem_append_right _ h)))) (by decide +kernel))
set_option maxRecDepth 20000 in
theorem gL_law_L_read : GoodIn wsL_law (va_wsS RL 252 yL_read wsL_read) := goodIn_app (goodIn_of _ (by decide +kernel)) ggL_law_L_read
set_option maxRecDepth 20000 in
theorem ggL_law_X7_read : GoodIn wsL_law wsX7_read := goodIn_ca (goodIn_r _ [624, 97, 98, 88, 96, 284, 285, 286, 5, 287, 625, 626, 627, 628, 101, 136, 137, 138, 139, 140, 960, 961, 962, 963, 964, 965, 966, 967, 968, 969, 970, 971, 972, 973, 974, 975, 976, 977, 978, 979, 980] (by decide +kernel) (by decide +kernel)) (goodIn_sub (fun _ h => List.mem_append_left _ (List.mem_append_left _ (List.mem_append_left _ (List.mem_append_left _ (List.mem_append_left _ (List.mem_append_right _ h)))))) (by decide +kernel))
set_option maxRecDepth 20000 in
theorem gL_law_X7_read : GoodIn wsL_law (wsV RL 254 RX7 yX7_read wsX7_read) := goodIn_app (goodIn_of _ (by decide +kernel)) ggL_law_X7_read
set_option maxRecDepth 20000 in
theorem ggL_law_L_readPart : GoodIn wsL_law wsL_readPart := goodIn_ca (goodIn_ca (goodIn_ca (goodIn_ca (goodIn_ca (goodIn_r _ [631, 113, 114, 593, 295, 632, 633, 634, 2, 635, 307, 308, 121, 636, 541, 542, 543, 544, 126, 127, 29, 122, 123, 124, 125, 16, 185, 186, 187, 637, 638, 639, 119, 120, 613, 614, 615, 616, 598, 599, 600, 601, 640, 641, 642, 31, 643, 553, 559, 555, 556, 557, 558, 60, 554, 981, 985, 986, 987, 988, 989, 990, 953, 954, 955, 956, 957, 958, 959] (by decide +kernel) (by decide +kernel)) (goodIn_sub (fun _ h => List.mem_append_left _ (List.mem_append_left _ (List.mem_append_left _ (List.mem_append_left _ (List.mem_append_left _ (List.mem_append_right _ h)))))) (by decide +kernel))) (goodIn_sub (fun _ h => List.mem_append_left _ (List.mem_append_left _ (List.mem_append_right _ h))) (by decide +kernel))) (goodIn_sub (fun _ h => List.mem_append_left _ (List.mem_append_left _ (List.mem_append_left _ (List.mem_append_right _ h)))) (by decide +kernel))) (goodIn_sub (fun _ h => List.mem_append_left _ (List.mem_append_left _ (List.mem_append_left _ (List.mem_append_left _ (List.mem_append_right _ h))))) (by decide +kernel))) (goodIn_sub (fun _ h => List.mem_append_left _ (List.mem_append_right _ h)) (by decide +kernel))
set_option maxRecDepth 20000 in
theorem gL_law_L_readPart : GoodIn wsL_law (va_wsS RL 255 yL_readPart wsL_readPart) := goodIn_app (goodIn_of _ (by decide +kernel)) ggL_law_L_readPart
set_option maxRecDepth 20000 in
theorem ggL_law_X7_readPart : GoodIn wsL_law wsX7_readPart := goodIn_ca (goodIn_r _ [647, 96, 90, 98, 97, 88, 284, 285, 286, 5, 287, 174, 175, 176, 177, 132, 133, 134, 135, 141, 142, 143, 144, 89, 625, 626, 627, 628, 101, 136, 137, 138, 139, 140, 571, 572, 573, 574, 960, 961, 962, 963, 964, 965, 966, 967, 968, 969, 970, 971, 972, 973, 974, 975, 976, 977, 978, 979, 980] (by decide +kernel) (by decide +kernel)) (goodIn_sub (fun _ h => List.mem_append_left _ (List.mem_append_left _ (List.mem_append_left _ (List.mem_append_left _ (List.mem_append_left _ (List.mem_append_right _ h)))))) (by decide +kernel))
set_option maxRecDepth 20000 in
theorem gL_law_X7_readPart : GoodIn wsL_law (wsV RL 257 RX7 yX7_readPart wsX7_readPart) := goodIn_app (goodIn_of _ (by decide +kernel)) ggL_law_X7_readPart
set_option maxRecDepth 20000 in
theorem ggL_law_L_skip : GoodIn wsL_law wsL_skip := goodIn_ca (goodIn_ca (goodIn_ca (goodIn_r _ [650, 113, 593, 651, 652, 653, 2, 654, 613, 614, 615, 616, 598, 599, 600, 601, 541, 542, 543, 544, 126, 127, 29, 655, 656, 657, 31, 658, 559, 553, 659, 660, 557, 661, 662, 663, 664, 985, 986, 987, 988, 989, 990, 953, 954, 955, 956, 957, 958, 959] (by decide +kernel) (by decide +kernel)) (goodIn_sub (fun _ h => List.mem_append_left _ (List.mem_append_left _ (List.mem_append_left _ (List.mem_append_left _ (List.mem_append_left _ (List.mem_append_right _ h)))))) (by decide +kernel))) (goodIn_sub (fun _ h => List.mem_append_left _ (List.mem_append_right _ h)) (by decide +kernel))) (goodIn_sub (fun _ h => List.mem_append_left _ (List.mem_append_left _ (List.mem_append_left _ (List.mem_append_right _ h)))) (by decide +kernel))
set_option maxRecDepth 20000 in
theorem gL_law_L_skip : GoodIn wsL_law (va_wsS RL 260 yL_skip wsL_skip) := goodIn_app (goodIn_of _ (by decide +kernel)) ggL_law_L_skip
set_option maxRecDepth 20000 in
theorem ggL_law_X7_skip : GoodIn wsL_law wsX7_skip := goodIn_ca (goodIn_r _ [668, 98, 97, 284, 285, 286, 5, 287, 625, 626, 627, 628, 96, 101, 136, 137, 138, 139, 140, 960, 961, 962, 963, 964, 965, 966, 967, 968, 969, 970, 971, 972, 973, 974, 975, 976, 977, 978, 979, 980] (by decide +kernel) (by decide +kernel)) (goodIn_sub (fun _ h => List.mem_append_left _ (List.mem_append_left _ (List.mem_append_left _ (List.mem_append_left _ (List.mem_append_left _ (List.mem_append_right _ h)))))) (by decide +kernel))
set_option maxRecDepth 20000 in
theorem gL_law_X7_skip : GoodIn wsL_law (wsV RL 263 RX7 yX7_skip wsX7_skip) := goodIn_app (goodIn_of _ (by decide +kernel)) ggL_law_X7_skip
set_option maxRecDepth 20000 in
theorem ggL_law_L_mark : GoodIn wsL_law wsL_mark := goodIn_ca (goodIn_ca (goodIn_ca (goodIn_ca (goodIn_r _ [671, 113, 114, 593, 672, 673, 674, 2, 675, 119, 120, 676, 677, 541, 542, 543, 544, 126, 127, 29, 613, 614, 615, 616, 598, 599, 600, 601, 563, 564, 565, 31, 566, 559, 553, 985, 986, 987, 988, 989, 990, 953, 954, 955, 956, 957, 958, 959] (by decide +kernel) (by decide +kernel)) (goodIn_sub (fun _ h => List.mem_append_left _ (List.mem_append_left _ (List.mem_append_left _ (List.mem_append_left _ (List.mem_append_left _ (List.mem_append_right _ h)))))) (by decide +kernel))) (goodIn_sub (fun _ h => List.mem_append_left _ (List.mem_append_left _ (List.mem_append_left _ (List.mem_append_left _ (List.mem_append_right _ h))))) (by decide +kernel))) (goodIn_sub (fun _ h => List.mem_append_left _ (List.mem_append_left _ (List.mem_append_left _ (List.mem_append_right _ h)))) (by decide +kernel))) (goodIn_sub (fun _ h => List.mem_append_left _ (List.mem_append_right _ h)) (by decide +kernel))
set_option maxRecDepth 20000 in
theorem gL_law_L_mark : GoodIn wsL_law (va_wsS RL 264 yL_mark wsL_mark) := goodIn_app (goodIn_of _ (by decide +kernel)) ggL_law_L_mark
set_option maxRecDepth 20000 in
theorem ggL_law_X7_mark : GoodIn wsL_law wsX7_mark := goodIn_ca (goodIn_r _ [681, 99, 97, 98, 284, 285, 286, 5, 287, 625, 626, 627, 628, 96, 101, 136, 137, 138, 139, 140, 960, 961, 962, 963, 964, 965, 966, 967, 968, 969, 970, 971, 972, 973, 974, 975, 976, 977, 978, 979, 980] (by decide +kernel) (by decide +kernel)) (goodIn_sub (fun _ h => List.mem_append_left _ (List.mem_append_left _ (List.mem_append_left _ (List.mem_append_left _ (List.mem_append_left _ (List.mem_append_right _ h)))))) (by decide +kernel))
set_option maxRecDepth 20000 in
theorem gL_law_X7_mark : GoodIn wsL_law (wsV RL 266 RX7 yX7_mark wsX7_mark) := goodIn_app (goodIn_of _ (by decide +kernel)) ggL_law_X7_mark
set_option maxRecDepth 20000 in
theorem ggL_law_L_back : GoodIn wsL_law wsL_back := goodIn_ca (goodIn_ca (goodIn_ca (goodIn_r _ [684, 113, 593, 685, 686, 687, 2, 688, 677, 676, 613, 614, 615, 616, 598, 599, 600, 601, 541, 542, 543, 544, 126, 127, 29, 563, 564, 565, 31, 566, 559, 553, 985, 986, 987, 988, 989, 990, 953, 954, 955, 956, 957, 958, 959] (by decide +kernel) (by decide +kernel)) (goodIn_sub (fun _ h => List.mem_append_left _ (List.mem_append_left _ (List.mem_append_left _ (List.mem_append_left _ (List.mem_append_left _ (List.mem_append_right _ h)))))) (by decide +kernel))) (goodIn_sub (fun _ h => List.mem_append_left _ (List.mem_append_right _ h)) (by decide +kernel))) (goodIn_sub (fun _ h => List.mem_append_left _ (List.mem_append_left _ (List.mem_append_left _ (List.mem_append_right _ h)))) (by decide +kernel))
set_option maxRecDepth 20000 in
theorem gL_law_L_back : GoodIn wsL_law (va_wsS RL 267 yL_back wsL_back) := goodIn_app (goodIn_of _ (by decide +kernel)) ggL_law_L_back
set_option maxRecDepth 20000 in
theorem ggL_law_X7_back : GoodIn wsL_law wsX7_back := goodIn_ca (goodIn_r _ [692, 97, 99, 98, 284, 285, 286, 5, 287, 625, 626, 627, 628, 96, 101, 136, 137, 138, 139, 140, 960, 961, 962, 963, 964, 965, 966, 967, 968, 969, 970, 971, 972, 973, 974, 975, 976, 977, 978, 979, 980] (by decide +kernel) (by decide +kernel)) (goodIn_sub (fun _ h => List.mem_append_left _ (List.mem_append_left _ (List.mem_append_left _ (List.mem_append_left _ (List.mem_append_left _ (List.mem_append_right _ h)))))) (by decide +kernel))
set_option maxRecDepth 20000 in
theorem gL_law_X7_back : GoodIn wsL_law (wsV RL 269 RX7 yX7_back wsX7_back) := goodIn_app (goodIn_of _ (by decide +kernel)) ggL_law_X7_back
set_option maxRecDepth 20000 in
theorem ggL_law_L_join : GoodIn wsL_law wsL_join := goodIn_ca (goodIn_ca (goodIn_r _ [695, 113, 696, 697, 698, 2, 699, 700, 701, 702, 703, 704, 126, 127, 33, 222, 223, 224, 225, 20, 705, 706, 707, 35, 708, 709, 710, 711, 712, 713, 714, 715, 716, 717, 66, 718, 991, 992, 993, 994, 995, 996, 953, 954, 955, 956, 957, 958, 959, 982] (by decide +kernel) (by decide +kernel)) (goodIn_sub (fun _ h => List.mem_append_left _ (List.mem_append_left _ (List.mem_append_left _ (List.mem_append_left _ (List.mem_append_left _ (List.mem_append_right _ h)))))) (by decide +kernel))) (goodIn_sub (fun _ h => List.mem_append_left _ (List.mem_append_left _ (List.mem_append_left _ (List.mem_append_right _ h)))) (by decide +kernel))
set_option maxRecDepth 20000 in
theorem gL_law_L_join : GoodIn wsL_law (va_wsS RL 270 yL_join wsL_join) := goodIn_app (goodIn_of _ (by decide +kernel)) ggL_law_L_join
set_option maxRecDepth 20000 in
theorem ggL_law_X7_join : GoodIn wsL_law wsX7_join := goodIn_ca (goodIn_r _ [722, 106, 723, 724, 725, 5, 726, 132, 133, 134, 135, 136, 137, 138, 139, 140, 727, 728, 729, 730, 103, 102, 105, 107, 731, 732, 733, 734, 93, 104, 92, 960, 961, 962, 963, 964, 965, 966, 967, 968, 969, 970, 971, 972, 973, 974, 975, 976, 977, 978, 979, 980] (by decide +kernel) (by decide +kernel)) (goodIn_sub (fun _ h => List.mem_append_left _ (List.mem_append_left _ (List.mem_append_left _ (List.mem_append_left _ (List.mem_append_left _ (List.mem_append_right _ h)))))) (by decide +kernel))
set_option maxRecDepth 20000 in
theorem gL_law_X7_join : GoodIn wsL_law (wsV RL 272 RX7 yX7_join wsX7_join) := goodIn_app (goodIn_of _ (by decide +kernel)) ggL_law_X7_join
set_option maxRecDepth 20000 in
theorem ggL_law_L_joinThree : GoodIn wsL_law wsL_joinThree := goodIn_ca (goodIn_ca (goodIn_r _ [737, 113, 738, 739, 740, 2, 741, 700, 701, 702, 703, 704, 126, 127, 33, 222, 223, 224, 225, 20, 742, 743, 744, 35, 745, 746, 706, 707, 708, 709, 710, 711, 712, 713, 747, 715, 716, 717, 66, 718, 991, 992, 993, 994, 995, 996, 953, 954, 955, 956, 957, 958, 959, 982] (by decide +kernel) (by decide +kernel)) (goodIn_sub (fun _ h => List.mem_append_left _ (List.mem_append_left _ (List.mem_append_left _ (List.mem_append_left _ (List.mem_append_left _ (List.mem_append_right _ h)))))) (by decide +kernel))) (goodIn_sub (fun _ h => List.mem_append_left _ (List.mem_append_left _ (List.mem_append_left _ (List.mem_append_right _ h)))) (by decide +kernel))
set_option maxRecDepth 20000 in
theorem gL_law_L_joinThree : GoodIn wsL_law (va_wsS RL 273 yL_joinThree wsL_joinThree) := goodIn_app (goodIn_of _ (by decide +kernel)) ggL_law_L_joinThree
set_option maxRecDepth 20000 in
theorem ggL_law_X7_joinThree : GoodIn wsL_law wsX7_joinThree := goodIn_ca (goodIn_r _ [751, 106, 723, 724, 725, 5, 726, 132, 133, 134, 135, 136, 137, 138, 139, 140, 727, 728, 729, 730, 103, 102, 105, 107, 731, 732, 733, 734, 93, 104, 92, 960, 961, 962, 963, 964, 965, 966, 967, 968, 969, 970, 971, 972, 973, 974, 975, 976, 977, 978, 979, 980] (by decide +kernel) (by decide +kernel)) (goodIn_sub (fun _ h => List.mem_append_left _ (List.mem_append_left _ (List.mem_append_left _ (List.mem_append_left _ (List.mem_append_left _ (List.mem_append_right _ h)))))) (by decide +kernel))
set_option maxRecDepth 20000 in
theorem gL_law_X7_joinThree : GoodIn wsL_law (wsV RL 276 RX7 yX7_joinThree wsX7_joinThree) := goodIn_app (goodIn_of _ (by decide +kernel)) ggL_law_X7_joinThree
set_option maxRecDepth 20000 in
theorem ggL_law_L_next : GoodIn wsL_law wsL_next := goodIn_ca (goodIn_ca (goodIn_ca (goodIn_r _ [754, 113, 593, 755, 756, 757, 2, 758, 759, 760, 761, 762, 598, 599, 701, 702, 703, 704, 126, 127, 33, 763, 764, 765, 35, 766, 709, 767, 768, 769, 770, 66, 710, 718, 711, 712, 771, 772, 773, 774, 953, 954, 955, 956, 957, 958, 959, 991, 992, 993, 994, 995, 996, 982] (by decide +kernel) (by decide +kernel)) (goodIn_sub (fun _ h => List.mem_append_left _ (List.mem_append_left _ (List.mem_append_left _ (List.mem_append_left _ (List.mem_append_left _ (List.mem_append_right _ h)))))) (by decide +kernel))) (goodIn_sub (fun _ h => List.mem_append_left _ (List.mem_append_right _ h)) (by decide +kernel))) (goodIn_sub (fun _ h => List.mem_append_left _ (List.mem_append_left _ (List.mem_append_left _ (List.mem_append_right _ h)))) (by decide +kernel))
set_option maxRecDepth 20000 in
theorem gL_law_L_next : GoodIn wsL_law (va_wsS RL 277 yL_next wsL_next) := goodIn_app (goodIn_of _ (by decide +kernel)) ggL_law_L_next
set_option maxRecDepth 20000 in
theorem ggL_law_X7_next : GoodIn wsL_law wsX7_next := goodIn_ca (goodIn_r _ [778, 779, 780, 781, 5, 782, 102, 723, 724, 725, 726, 136, 137, 138, 139, 140, 783, 784, 785, 786, 105, 787, 788, 789, 790, 92, 103, 104, 791, 792, 793, 794, 107, 91, 960, 961, 962, 963, 964, 965, 966, 967, 968, 969, 970, 971, 972, 973, 974, 975, 976, 977, 978, 979, 980] (by decide +kernel) (by decide +kernel)) (goodIn_sub (fun _ h => List.mem_append_left _ (List.mem_append_left _ (List.mem_append_left _ (List.mem_append_left _ (List.mem_append_left _ (List.mem_append_right _ h)))))) (by decide +kernel))
set_option maxRecDepth 20000 in
theorem gL_law_X7_next : GoodIn wsL_law (wsV RL 279 RX7 yX7_next wsX7_next) := goodIn_app (goodIn_of _ (by decide +kernel)) ggL_law_X7_next
set_option maxRecDepth 20000 in
theorem ggL_law_L_nextPart : GoodIn wsL_law wsL_nextPart := goodIn_ca (goodIn_ca (goodIn_ca (goodIn_ca (goodIn_ca (goodIn_r _ [797, 113, 114, 593, 295, 798, 799, 800, 2, 801, 307, 308, 221, 701, 702, 703, 704, 126, 127, 33, 222, 223, 224, 225, 20, 185, 186, 187, 637, 638, 639, 119, 120, 759, 760, 761, 762, 598, 599, 763, 764, 765, 35, 766, 709, 802, 803, 804, 805, 66, 806, 807, 808, 809, 710, 718, 711, 810, 556, 557, 558, 712, 771, 772, 773, 774, 982, 953, 954, 955, 956, 957, 958, 959, 991, 992, 993, 994, 995, 996] (by decide +kernel) (by decide +kernel)) (goodIn_sub (fun _ h => List.mem_append_left _ (List.mem_append_left _ (List.mem_append_left _ (List.mem_append_left _ (List.mem_append_left _ (List.mem_append_right _ h)))))) (by decide +kernel))) (goodIn_sub (fun _ h => List.mem_append_left _ (List.mem_append_left _ (List.mem_append_right _ h))) (by decide +kernel))) (goodIn_sub (fun _ h => List.mem_append_left _ (List.mem_append_left _ (List.mem_append_left _ (List.mem_append_right _ h)))) (by decide +kernel))) (goodIn_sub (fun _ h => List.mem_append_left _ (List.mem_append_left _ (List.mem_append_left _ (List.mem_append_left _ (List.mem_append_right _ h))))) (by decide +kernel))) (goodIn_sub (fun _ h => List.mem_append_left _ (List.mem_append_right _ h)) (by decide +kernel))
set_option maxRecDepth 20000 in
theorem gL_law_L_nextPart : GoodIn wsL_law (va_wsS RL 280 yL_nextPart wsL_nextPart) := goodIn_app (goodIn_of _ (by decide +kernel)) ggL_law_L_nextPart
set_option maxRecDepth 20000 in
theorem ggL_law_X7_nextPart : GoodIn wsL_law wsX7_nextPart := goodIn_ca (goodIn_r _ [814, 102, 91, 93, 723, 724, 725, 5, 726, 249, 250, 251, 252, 92, 132, 133, 134, 135, 815, 816, 817, 818, 103, 136, 137, 138, 139, 140, 783, 784, 785, 786, 105, 787, 788, 789, 790, 104, 571, 572, 573, 574, 791, 792, 793, 794, 107, 960, 961, 962, 963, 964, 965, 966, 967, 968, 969, 970, 971, 972, 973, 974, 975, 976, 977, 978, 979, 980] (by decide +kernel) (by decide +kernel)) (goodIn_sub (fun _ h => List.mem_append_left _ (List.mem_append_left _ (List.mem_append_left _ (List.mem_append_left _ (List.mem_append_left _ (List.mem_append_right _ h)))))) (by decide +kernel))
set_option maxRecDepth 20000 in
theorem gL_law_X7_nextPart : GoodIn wsL_law (wsV RL 282 RX7 yX7_nextPart wsX7_nextPart) := goodIn_app (goodIn_of _ (by decide +kernel)) ggL_law_X7_nextPart
set_option maxRecDepth 20000 in
theorem ggL_law_L_pass : GoodIn wsL_law wsL_pass := goodIn_ca (goodIn_ca (goodIn_ca (goodIn_ca (goodIn_r _ [821, 113, 114, 593, 822, 823, 824, 2, 825, 701, 702, 703, 704, 126, 127, 33, 545, 546, 547, 119, 120, 548, 759, 760, 761, 762, 598, 599, 763, 764, 765, 35, 766, 709, 826, 827, 828, 829, 830, 768, 769, 770, 66, 710, 718, 711, 712, 771, 772, 773, 774, 953, 954, 955, 956, 957, 958, 959, 991, 992, 993, 994, 995, 996, 982] (by decide +kernel) (by decide +kernel)) (goodIn_sub (fun _ h => List.mem_append_left _ (List.mem_append_left _ (List.mem_append_left _ (List.mem_append_left _ (List.mem_append_left _ (List.mem_append_right _ h)))))) (by decide +kernel))) (goodIn_sub (fun _ h => List.mem_append_left _ (List.mem_append_left _ (List.mem_append_left _ (List.mem_append_right _ h)))) (by decide +kernel))) (goodIn_sub (fun _ h => List.mem_append_left _ (List.mem_append_left _ (List.mem_append_left _ (List.mem_append_left _ (List.mem_append_right _ h))))) (by decide +kernel))) (goodIn_sub (fun _ h => List.mem_append_left _ (List.mem_append_right _ h)) (by decide +kernel))
set_option maxRecDepth 20000 in
theorem gL_law_L_pass : GoodIn wsL_law (va_wsS RL 283 yL_pass wsL_pass) := goodIn_app (goodIn_of _ (by decide +kernel)) ggL_law_L_pass
set_option maxRecDepth 20000 in
theorem ggL_law_X7_pass : GoodIn wsL_law wsX7_pass := goodIn_ca (goodIn_r _ [834, 835, 102, 723, 724, 725, 5, 726, 136, 137, 138, 139, 140, 783, 784, 785, 786, 105, 787, 788, 789, 790, 92, 103, 104, 791, 792, 793, 794, 107, 91, 960, 961, 962, 963, 964, 965, 966, 967, 968, 969, 970, 971, 972, 973, 974, 975, 976, 977, 978, 979, 980] (by decide +kernel) (by decide +kernel)) (goodIn_sub (fun _ h => List.mem_append_left _ (List.mem_append_left _ (List.mem_append_left _ (List.mem_append_left _ (List.mem_append_left _ (List.mem_append_right _ h)))))) (by decide +kernel))
set_option maxRecDepth 20000 in
theorem gL_law_X7_pass : GoodIn wsL_law (wsV RL 285 RX7 yX7_pass wsX7_pass) := goodIn_app (goodIn_of _ (by decide +kernel)) ggL_law_X7_pass
set_option maxRecDepth 20000 in
theorem ggL_law_L_left : GoodIn wsL_law wsL_left := goodIn_ca (goodIn_ca (goodIn_ca (goodIn_r _ [838, 113, 593, 839, 840, 841, 2, 842, 759, 760, 761, 762, 598, 599, 701, 702, 703, 704, 126, 127, 33, 763, 764, 765, 35, 766, 709, 843, 844, 845, 846, 710, 66, 718, 711, 953, 954, 955, 956, 957, 958, 959, 991, 992, 993, 994, 995, 996, 982] (by decide +kernel) (by decide +kernel)) (goodIn_sub (fun _ h => List.mem_append_left _ (List.mem_append_left _ (List.mem_append_left _ (List.mem_append_left _ (List.mem_append_left _ (List.mem_append_right _ h)))))) (by decide +kernel))) (goodIn_sub (fun _ h => List.mem_append_left _ (List.mem_append_right _ h)) (by decide +kernel))) (goodIn_sub (fun _ h => List.mem_append_left _ (List.mem_append_left _ (List.mem_append_left _ (List.mem_append_right _ h)))) (by decide +kernel))
set_option maxRecDepth 20000 in
theorem gL_law_L_left : GoodIn wsL_law (va_wsS RL 286 yL_left wsL_left) := goodIn_app (goodIn_of _ (by decide +kernel)) ggL_law_L_left
set_option maxRecDepth 20000 in
theorem ggL_law_X7_left : GoodIn wsL_law wsX7_left := goodIn_ca (goodIn_r _ [850, 779, 780, 781, 5, 782, 102, 723, 724, 725, 726, 136, 137, 138, 139, 140, 787, 788, 789, 790, 105, 92, 103, 104, 960, 961, 962, 963, 964, 965, 966, 967, 968, 969, 970, 971, 972, 973, 974, 975, 976, 977, 978, 979, 980] (by decide +kernel) (by decide +kernel)) (goodIn_sub (fun _ h => List.mem_append_left _ (List.mem_append_left _ (List.mem_append_left _ (List.mem_append_left _ (List.mem_append_left _ (List.mem_append_right _ h)))))) (by decide +kernel))
set_option maxRecDepth 20000 in
theorem gL_law_X7_left : GoodIn wsL_law (wsV RL 288 RX7 yX7_left wsX7_left) := goodIn_app (goodIn_of _ (by decide +kernel)) ggL_law_X7_left
set_option maxRecDepth 20000 in
theorem ggL_law_L_passedShare : GoodIn wsL_law wsL_passedShare := goodIn_ca (goodIn_ca (goodIn_ca (goodIn_ca (goodIn_r _ [853, 113, 593, 854, 855, 856, 857, 2, 858, 859, 860, 700, 861, 759, 760, 761, 762, 598, 599, 701, 702, 703, 704, 126, 127, 33, 763, 764, 765, 35, 766, 709, 991, 992, 993, 994, 995, 996, 953, 954, 955, 956, 957, 958, 959] (by decide +kernel) (by decide +kernel)) (goodIn_sub (fun _ h => List.mem_append_left _ (List.mem_append_left _ (List.mem_append_left _ (List.mem_append_left _ (List.mem_append_left _ (List.mem_append_right _ h)))))) (by decide +kernel))) (goodIn_sub (fun _ h => List.mem_append_right _ h) (by decide +kernel))) (goodIn_sub (fun _ h => List.mem_append_left _ (List.mem_append_right _ h)) (by decide +kernel))) (goodIn_sub (fun _ h => List.mem_append_left _ (List.mem_append_left _ (List.mem_append_left _ (List.mem_append_right _ h)))) (by decide +kernel))
set_option maxRecDepth 20000 in
theorem gL_law_L_passedShare : GoodIn wsL_law (va_wsS RL 289 yL_passedShare wsL_passedShare) := goodIn_app (goodIn_of _ (by decide +kernel)) ggL_law_L_passedShare
set_option maxRecDepth 20000 in
theorem ggL_law_X7_passedShare : GoodIn wsL_law wsX7_passedShare := goodIn_ca (goodIn_r _ [865, 102, 106, 107, 723, 724, 725, 5, 726, 136, 137, 138, 139, 140, 960, 961, 962, 963, 964, 965, 966, 967, 968, 969, 970, 971, 972, 973, 974, 975, 976, 977, 978, 979, 980] (by decide +kernel) (by decide +kernel)) (goodIn_sub (fun _ h => List.mem_append_left _ (List.mem_append_left _ (List.mem_append_left _ (List.mem_append_left _ (List.mem_append_left _ (List.mem_append_right _ h)))))) (by decide +kernel))
set_option maxRecDepth 20000 in
theorem gL_law_X7_passedShare : GoodIn wsL_law (wsV RL 292 RX7 yX7_passedShare wsX7_passedShare) := goodIn_app (goodIn_of _ (by decide +kernel)) ggL_law_X7_passedShare
set_option maxRecDepth 20000 in
theorem ggL_law_X6_meanSize : GoodIn wsL_law wsX6_meanSize := goodIn_r _ [869, 24, 303, 25, 870, 953, 954, 955, 956, 957, 958, 959, 983, 984] (by decide +kernel) (by decide +kernel)
set_option maxRecDepth 20000 in
theorem gL_law_X6_meanSize : GoodIn wsL_law (wsV RL 293 RX6 yX6_meanSize wsX6_meanSize) := goodIn_app (goodIn_of _ (by decide +kernel)) ggL_law_X6_meanSize
set_option maxRecDepth 20000 in
theorem ggL_law_X7_meanSize : GoodIn wsL_law wsX7_meanSize := goodIn_ca (goodIn_r _ [874, 140, 95, 875, 960, 961, 962, 963, 964, 965, 966, 967, 968, 969, 970, 971, 972, 973, 974, 975, 976, 977, 978, 979, 980] (by decide +kernel) (by decide +kernel)) (goodIn_sub (fun _ h => List.mem_append_left _ (List.mem_append_left _ (List.mem_append_left _ (List.mem_append_left _ (List.mem_append_left _ (List.mem_append_right _ h)))))) (by decide +kernel))
set_option maxRecDepth 20000 in
theorem gL_law_X7_meanSize : GoodIn wsL_law (wsV RL 297 RX7 yX7_meanSize wsX7_meanSize) := goodIn_app (goodIn_of _ (by decide +kernel)) ggL_law_X7_meanSize
set_option maxRecDepth 20000 in
theorem ggL_law_X6_checksum : GoodIn wsL_law wsX6_checksum := goodIn_ca (goodIn_r _ [879, 880, 16, 121, 20, 221, 24, 499, 303, 25, 881, 33, 882, 883, 2, 884, 885, 886, 887, 763, 764, 765, 35, 766, 709, 843, 844, 845, 846, 710, 66, 718, 711, 953, 954, 955, 956, 957, 958, 959, 981, 982, 983, 984, 991, 992, 993, 994, 995, 996] (by decide +kernel) (by decide +kernel)) (goodIn_sub (fun _ h => List.mem_append_left _ (List.mem_append_left _ (List.mem_append_left _ (List.mem_append_left _ (List.mem_append_left _ (List.mem_append_right _ h)))))) (by decide +kernel))
set_option maxRecDepth 20000 in
theorem gL_law_X6_checksum : GoodIn wsL_law (wsV RL 298 RX6 yX6_checksum wsX6_checksum) := goodIn_app (goodIn_of _ (by decide +kernel)) ggL_law_X6_checksum
set_option maxRecDepth 20000 in
theorem ggL_law_X7_checksum : GoodIn wsL_law wsX7_checksum := goodIn_ca (goodIn_r _ [891, 140, 892, 893, 88, 90, 92, 93, 91, 95, 94, 102, 141, 142, 143, 5, 144, 89, 787, 788, 789, 790, 105, 103, 104, 960, 961, 962, 963, 964, 965, 966, 967, 968, 969, 970, 971, 972, 973, 974, 975, 976, 977, 978, 979, 980] (by decide +kernel) (by decide +kernel)) (goodIn_sub (fun _ h => List.mem_append_left _ (List.mem_append_left _ (List.mem_append_left _ (List.mem_append_left _ (List.mem_append_left _ (List.mem_append_right _ h)))))) (by decide +kernel))
set_option maxRecDepth 20000 in
theorem gL_law_X7_checksum : GoodIn wsL_law (wsV RL 302 RX7 yX7_checksum wsX7_checksum) := goodIn_app (goodIn_of _ (by decide +kernel)) ggL_law_X7_checksum
set_option maxRecDepth 20000 in
theorem ggL_law_X6_isTrue : GoodIn wsL_law wsX6_isTrue := goodIn_ca (goodIn_r _ [897, 39, 24, 25, 20, 898, 899, 900, 38, 901, 902, 903, 904, 905, 906, 74, 907, 908, 909, 910, 911, 71, 912, 913, 397, 398, 27, 399, 279, 55, 914, 550, 551, 31, 552, 60, 553, 554, 555, 556, 557, 558, 559, 560, 561, 562, 915, 618, 619, 620, 916, 917, 918, 919, 920, 72, 921, 641, 642, 643, 922, 923, 924, 925, 77, 76, 926, 276, 277, 278, 927, 341, 342, 343, 928, 527, 528, 529, 929, 930, 931, 932, 933, 81, 934, 935, 936, 937, 78, 938, 743, 744, 35, 745, 746, 706, 707, 708, 709, 710, 711, 712, 713, 747, 715, 716, 717, 66, 718, 939, 940, 941, 942, 943, 768, 769, 770, 771, 772, 773, 774, 944, 945, 946, 947, 79, 948, 807, 808, 809, 810, 953, 954, 955, 956, 957, 958, 959, 983, 984, 997, 998, 999, 1000, 1001, 1002, 1003, 1004, 981, 985, 986, 987, 988, 989, 990, 982, 991, 992, 993, 994, 995, 996] (by decide +kernel) (by decide +kernel)) (goodIn_sub (fun _ h => List.mem_append_left _ (List.mem_append_left _ (List.mem_append_left _ (List.mem_append_left _ (List.mem_append_left _ (List.mem_append_right _ h)))))) (by decide +kernel))
set_option maxRecDepth 20000 in
theorem gL_law_X6_isTrue : GoodIn wsL_law (wsV RL 303 RX6 yX6_isTrue wsX6_isTrue) := goodIn_app (goodIn_of _ (by decide +kernel)) ggL_law_X6_isTrue
set_option maxRecDepth 20000 in
theorem ggL_law_X7_isTrue : GoodIn wsL_law wsX7_isTrue := goodIn_ca (goodIn_r _ [952, 140, 96, 99, 98, 97, 960, 961, 962, 963, 964, 965, 966, 967, 968, 969, 970, 971, 972, 973, 974, 975, 976, 977, 978, 979, 980] (by decide +kernel) (by decide +kernel)) (goodIn_sub (fun _ h => List.mem_append_left _ (List.mem_append_left _ (List.mem_append_left _ (List.mem_append_left _ (List.mem_append_left _ (List.mem_append_right _ h)))))) (by decide +kernel))
set_option maxRecDepth 20000 in
theorem gL_law_X7_isTrue : GoodIn wsL_law (wsV RL 307 RX7 yX7_isTrue wsX7_isTrue) := goodIn_app (goodIn_of _ (by decide +kernel)) ggL_law_X7_isTrue
abbrev vwCl : List vw_C := [(RJ0, TJ0, 2), (RJx00060, TJx00060, 6), (RX0, TX0, 1), (RX1, TX1, 6), (RX2, TX2, 6), (RX3, TX3, 1), (RX4, TX4, 2), (RX5, TX5, 8), (RX6, TX6, 7), (RX7, TX7, 21)]

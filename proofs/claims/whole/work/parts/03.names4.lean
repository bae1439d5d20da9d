theorem dX7_fill_0 : decode cX7_fill 0 = .ok (.aload_n 0, 1) := by decide +kernel
theorem dX7_fill_1 : decode cX7_fill 1 = .ok (.aload_n 0, 1) := by decide +kernel
theorem dX7_fill_2 : decode cX7_fill 2 = .ok (.iload_n 1, 1) := by decide +kernel
theorem dX7_fill_3 : decode cX7_fill 3 = .ok (.iload_n 2, 1) := by decide +kernel
theorem dX7_fill_4 : decode cX7_fill 4 = .ok (.iload_n 3, 1) := by decide +kernel
theorem dX7_fill_5 : decode cX7_fill 5 = .ok (.invokevirtual 94, 3) := by decide +kernel
theorem dX7_fill_8 : decode cX7_fill 8 = .ok (.ifCond .eq 7, 3) := by decide +kernel
theorem dX7_fill_11 : decode cX7_fill 11 = .ok (.iconst 0, 1) := by decide +kernel
theorem dX7_fill_12 : decode cX7_fill 12 = .ok (.goto 4, 3) := by decide +kernel
theorem dX7_fill_15 : decode cX7_fill 15 = .ok (.iconst 1, 1) := by decide +kernel
theorem dX7_fill_16 : decode cX7_fill 16 = .ok (.invokevirtual 87, 3) := by decide +kernel
theorem dX7_fill_19 : decode cX7_fill 19 = .ok (.ifCond .eq 5, 3) := by decide +kernel
theorem dX7_fill_22 : decode cX7_fill 22 = .ok (.iconst 0, 1) := by decide +kernel
theorem dX7_fill_23 : decode cX7_fill 23 = .ok (.ireturn, 1) := by decide +kernel
theorem dX7_fill_24 : decode cX7_fill 24 = .ok (.iconst 0, 1) := by decide +kernel
theorem dX7_fill_25 : decode cX7_fill 25 = .ok (.istore 6, 2) := by decide +kernel
theorem dX7_fill_27 : decode cX7_fill 27 = .ok (.iconst 0, 1) := by decide +kernel
theorem dX7_fill_28 : decode cX7_fill 28 = .ok (.istore 7, 2) := by decide +kernel
theorem dX7_fill_30 : decode cX7_fill 30 = .ok (.iload 7, 2) := by decide +kernel
theorem dX7_fill_32 : decode cX7_fill 32 = .ok (.iload_n 3, 1) := by decide +kernel
theorem dX7_fill_33 : decode cX7_fill 33 = .ok (.if_icmp .ge 57, 3) := by decide +kernel
theorem dX7_fill_36 : decode cX7_fill 36 = .ok (.sipush 256, 3) := by decide +kernel
theorem dX7_fill_39 : decode cX7_fill 39 = .ok (.aload_n 0, 1) := by decide +kernel
theorem dX7_fill_40 : decode cX7_fill 40 = .ok (.getfield 16, 3) := by decide +kernel
theorem dX7_fill_43 : decode cX7_fill 43 = .ok (.iload_n 1, 1) := by decide +kernel
theorem dX7_fill_44 : decode cX7_fill 44 = .ok (.iaload, 1) := by decide +kernel
theorem dX7_fill_45 : decode cX7_fill 45 = .ok (.imul, 1) := by decide +kernel
theorem dX7_fill_46 : decode cX7_fill 46 = .ok (.iload_n 2, 1) := by decide +kernel
theorem dX7_fill_47 : decode cX7_fill 47 = .ok (.iadd, 1) := by decide +kernel
theorem dX7_fill_48 : decode cX7_fill 48 = .ok (.iload 7, 2) := by decide +kernel
theorem dX7_fill_50 : decode cX7_fill 50 = .ok (.iadd, 1) := by decide +kernel
theorem dX7_fill_51 : decode cX7_fill 51 = .ok (.istore 8, 2) := by decide +kernel
theorem dX7_fill_53 : decode cX7_fill 53 = .ok (.iload 6, 2) := by decide +kernel
theorem dX7_fill_55 : decode cX7_fill 55 = .ok (.aload_n 0, 1) := by decide +kernel
theorem dX7_fill_56 : decode cX7_fill 56 = .ok (.getfield 7, 3) := by decide +kernel
theorem dX7_fill_59 : decode cX7_fill 59 = .ok (.iload 8, 2) := by decide +kernel
theorem dX7_fill_61 : decode cX7_fill 61 = .ok (.iaload, 1) := by decide +kernel
theorem dX7_fill_62 : decode cX7_fill 62 = .ok (.iadd, 1) := by decide +kernel
theorem dX7_fill_63 : decode cX7_fill 63 = .ok (.istore 6, 2) := by decide +kernel
theorem dX7_fill_65 : decode cX7_fill 65 = .ok (.aload_n 0, 1) := by decide +kernel
theorem dX7_fill_66 : decode cX7_fill 66 = .ok (.getfield 7, 3) := by decide +kernel
theorem dX7_fill_69 : decode cX7_fill 69 = .ok (.iload 8, 2) := by decide +kernel
theorem dX7_fill_71 : decode cX7_fill 71 = .ok (.iload 4, 2) := by decide +kernel
theorem dX7_fill_73 : decode cX7_fill 73 = .ok (.iload 7, 2) := by decide +kernel
theorem dX7_fill_75 : decode cX7_fill 75 = .ok (.iload 5, 2) := by decide +kernel
theorem dX7_fill_77 : decode cX7_fill 77 = .ok (.imul, 1) := by decide +kernel
theorem dX7_fill_78 : decode cX7_fill 78 = .ok (.iadd, 1) := by decide +kernel
theorem dX7_fill_79 : decode cX7_fill 79 = .ok (.sipush 255, 3) := by decide +kernel
theorem dX7_fill_82 : decode cX7_fill 82 = .ok (.iand, 1) := by decide +kernel
theorem dX7_fill_83 : decode cX7_fill 83 = .ok (.iastore, 1) := by decide +kernel
theorem dX7_fill_84 : decode cX7_fill 84 = .ok (.iinc 7 1, 3) := by decide +kernel
theorem dX7_fill_87 : decode cX7_fill 87 = .ok (.goto (-57), 3) := by decide +kernel
theorem dX7_fill_90 : decode cX7_fill 90 = .ok (.iload 6, 2) := by decide +kernel
theorem dX7_fill_92 : decode cX7_fill 92 = .ok (.ireturn, 1) := by decide +kernel
set_option maxRecDepth 20000 in
theorem ggX7_get_X7_isPart : GoodIn wsX7_get wsX7_isPart := goodIn_ca (goodIn_r _ [7, 8, 9, 10, 6, 11, 12, 13, 14, 15, 16, 2, 22, 23, 24, 25, 26, 27, 28, 29, 30, 31, 32, 33, 34, 35, 36, 37, 38, 39, 40, 41, 42] (by decide +kernel) (by decide +kernel)) (goodIn_sub (fun _ h => List.mem_cons_of_mem _ (List.mem_append_right _ h)) (by decide +kernel))
set_option maxRecDepth 20000 in
theorem gX7_get_X7_isPart : GoodIn wsX7_get (wsV RX7 94 RX7 yX7_isPart wsX7_isPart) := goodIn_app (goodIn_of _ (by decide +kernel)) ggX7_get_X7_isPart
set_option maxRecDepth 20000 in
theorem ggX7_get_X7_isWrong : GoodIn wsX7_get wsX7_isWrong := goodIn_r _ [20, 21, 22, 23, 24, 25, 26, 27, 28, 29, 30, 31, 32, 33, 34, 35, 36, 37, 38, 39, 40, 41, 42] (by decide +kernel) (by decide +kernel)
set_option maxRecDepth 20000 in
theorem gX7_get_X7_isWrong : GoodIn wsX7_get (wsV RX7 87 RX7 yX7_isWrong wsX7_isWrong) := goodIn_app (goodIn_of _ (by decide +kernel)) ggX7_get_X7_isWrong
theorem dX7_get_0 : decode cX7_get 0 = .ok (.aload_n 0, 1) := by decide +kernel
theorem dX7_get_1 : decode cX7_get 1 = .ok (.aload_n 0, 1) := by decide +kernel
theorem dX7_get_2 : decode cX7_get 2 = .ok (.iload_n 1, 1) := by decide +kernel
theorem dX7_get_3 : decode cX7_get 3 = .ok (.iload_n 2, 1) := by decide +kernel
theorem dX7_get_4 : decode cX7_get 4 = .ok (.iconst 1, 1) := by decide +kernel
theorem dX7_get_5 : decode cX7_get 5 = .ok (.invokevirtual 94, 3) := by decide +kernel
theorem dX7_get_8 : decode cX7_get 8 = .ok (.ifCond .eq 7, 3) := by decide +kernel
theorem dX7_get_11 : decode cX7_get 11 = .ok (.iconst 0, 1) := by decide +kernel
theorem dX7_get_12 : decode cX7_get 12 = .ok (.goto 4, 3) := by decide +kernel
theorem dX7_get_15 : decode cX7_get 15 = .ok (.iconst 1, 1) := by decide +kernel
theorem dX7_get_16 : decode cX7_get 16 = .ok (.invokevirtual 87, 3) := by decide +kernel
theorem dX7_get_19 : decode cX7_get 19 = .ok (.ifCond .eq 7, 3) := by decide +kernel
theorem dX7_get_22 : decode cX7_get 22 = .ok (.iconst 0, 1) := by decide +kernel
theorem dX7_get_23 : decode cX7_get 23 = .ok (.goto 21, 3) := by decide +kernel
theorem dX7_get_26 : decode cX7_get 26 = .ok (.aload_n 0, 1) := by decide +kernel
theorem dX7_get_27 : decode cX7_get 27 = .ok (.getfield 7, 3) := by decide +kernel
theorem dX7_get_30 : decode cX7_get 30 = .ok (.sipush 256, 3) := by decide +kernel
theorem dX7_get_33 : decode cX7_get 33 = .ok (.aload_n 0, 1) := by decide +kernel
theorem dX7_get_34 : decode cX7_get 34 = .ok (.getfield 16, 3) := by decide +kernel
theorem dX7_get_37 : decode cX7_get 37 = .ok (.iload_n 1, 1) := by decide +kernel
theorem dX7_get_38 : decode cX7_get 38 = .ok (.iaload, 1) := by decide +kernel
theorem dX7_get_39 : decode cX7_get 39 = .ok (.imul, 1) := by decide +kernel
theorem dX7_get_40 : decode cX7_get 40 = .ok (.iload_n 2, 1) := by decide +kernel
theorem dX7_get_41 : decode cX7_get 41 = .ok (.iadd, 1) := by decide +kernel
theorem dX7_get_42 : decode cX7_get 42 = .ok (.iaload, 1) := by decide +kernel
theorem dX7_get_43 : decode cX7_get 43 = .ok (.i2c, 1) := by decide +kernel
theorem dX7_get_44 : decode cX7_get 44 = .ok (.ireturn, 1) := by decide +kernel
set_option maxRecDepth 20000 in
theorem ggX7_length_X7_isRow : GoodIn wsX7_length wsX7_isRow := goodIn_r _ [5] (by decide +kernel) (by decide +kernel)
set_option maxRecDepth 20000 in
theorem gX7_length_X7_isRow : GoodIn wsX7_length (wsV RX7 75 RX7 yX7_isRow wsX7_isRow) := goodIn_app (goodIn_of _ (by decide +kernel)) ggX7_length_X7_isRow
set_option maxRecDepth 20000 in
theorem ggX7_length_X7_isWrong : GoodIn wsX7_length wsX7_isWrong := goodIn_r _ [9, 10, 17, 18, 19, 20, 21, 22, 23, 24, 25, 26, 27, 28, 29, 30, 31, 32, 33, 34, 35, 36, 37] (by decide +kernel) (by decide +kernel)
set_option maxRecDepth 20000 in
theorem gX7_length_X7_isWrong : GoodIn wsX7_length (wsV RX7 87 RX7 yX7_isWrong wsX7_isWrong) := goodIn_app (goodIn_of _ (by decide +kernel)) ggX7_length_X7_isWrong
set_option maxRecDepth 20000 in
theorem ggX7_length_X7_signLength : GoodIn wsX7_length wsX7_signLength := goodIn_ca (goodIn_r _ [14, 15, 16, 17, 18, 19, 20, 21, 22, 23, 24, 25, 26, 27, 28, 29, 30, 31, 32, 33, 34, 35, 36, 37] (by decide +kernel) (by decide +kernel)) (goodIn_sub (fun _ h => List.mem_cons_of_mem _ (List.mem_append_right _ h)) (by decide +kernel))
set_option maxRecDepth 20000 in
theorem gX7_length_X7_signLength : GoodIn wsX7_length (wsV RX7 79 RX7 yX7_signLength wsX7_signLength) := goodIn_app (goodIn_of _ (by decide +kernel)) ggX7_length_X7_signLength
theorem dX7_length_0 : decode cX7_length 0 = .ok (.aload_n 0, 1) := by decide +kernel
theorem dX7_length_1 : decode cX7_length 1 = .ok (.aload_n 0, 1) := by decide +kernel
theorem dX7_length_2 : decode cX7_length 2 = .ok (.iload_n 1, 1) := by decide +kernel
theorem dX7_length_3 : decode cX7_length 3 = .ok (.invokevirtual 75, 3) := by decide +kernel
theorem dX7_length_6 : decode cX7_length 6 = .ok (.ifCond .eq 7, 3) := by decide +kernel
theorem dX7_length_9 : decode cX7_length 9 = .ok (.iconst 0, 1) := by decide +kernel
theorem dX7_length_10 : decode cX7_length 10 = .ok (.goto 4, 3) := by decide +kernel
theorem dX7_length_13 : decode cX7_length 13 = .ok (.iconst 1, 1) := by decide +kernel
theorem dX7_length_14 : decode cX7_length 14 = .ok (.invokevirtual 87, 3) := by decide +kernel
theorem dX7_length_17 : decode cX7_length 17 = .ok (.ifCond .eq 7, 3) := by decide +kernel
theorem dX7_length_20 : decode cX7_length 20 = .ok (.iconst 0, 1) := by decide +kernel
theorem dX7_length_21 : decode cX7_length 21 = .ok (.goto 8, 3) := by decide +kernel
theorem dX7_length_24 : decode cX7_length 24 = .ok (.aload_n 0, 1) := by decide +kernel
theorem dX7_length_25 : decode cX7_length 25 = .ok (.iload_n 1, 1) := by decide +kernel
theorem dX7_length_26 : decode cX7_length 26 = .ok (.invokevirtual 79, 3) := by decide +kernel
theorem dX7_length_29 : decode cX7_length 29 = .ok (.ireturn, 1) := by decide +kernel
set_option maxRecDepth 20000 in
theorem ggX7_makeBytes_X7_isRow : GoodIn wsX7_makeBytes wsX7_isRow := goodIn_r _ [8] (by decide +kernel) (by decide +kernel)
set_option maxRecDepth 20000 in
theorem gX7_makeBytes_X7_isRow : GoodIn wsX7_makeBytes (wsV RX7 75 RX7 yX7_isRow wsX7_isRow) := goodIn_app (goodIn_of _ (by decide +kernel)) ggX7_makeBytes_X7_isRow
set_option maxRecDepth 20000 in
theorem ggX7_makeBytes_X7_isWrong : GoodIn wsX7_makeBytes wsX7_isWrong := goodIn_r _ [12, 13, 23, 24, 25, 26, 27, 28, 29, 30, 31, 32, 33, 34, 35, 36, 37, 38, 39, 40, 41, 42, 43] (by decide +kernel) (by decide +kernel)
set_option maxRecDepth 20000 in
theorem gX7_makeBytes_X7_isWrong : GoodIn wsX7_makeBytes (wsV RX7 87 RX7 yX7_isWrong wsX7_isWrong) := goodIn_app (goodIn_of _ (by decide +kernel)) ggX7_makeBytes_X7_isWrong
set_option maxRecDepth 20000 in
theorem ggX7_makeBytes_X7_freeBytes : GoodIn wsX7_makeBytes wsX7_freeBytes := goodIn_ca (goodIn_r _ [17, 2, 18, 23, 24, 25, 26, 27, 28, 29, 30, 31, 32, 33, 34, 35, 36, 37, 38, 39, 40, 41, 42, 43] (by decide +kernel) (by decide +kernel)) (goodIn_sub (fun _ h => List.mem_cons_of_mem _ (List.mem_append_right _ h)) (by decide +kernel))
set_option maxRecDepth 20000 in
theorem gX7_makeBytes_X7_freeBytes : GoodIn wsX7_makeBytes (wsV RX7 98 RX7 yX7_freeBytes wsX7_freeBytes) := goodIn_app (goodIn_of _ (by decide +kernel)) ggX7_makeBytes_X7_freeBytes
set_option maxRecDepth 20000 in
theorem ggX7_makeBytes_X7_low : GoodIn wsX7_makeBytes wsX7_low := goodIn_r _ [22] (by decide +kernel) (by decide +kernel)
set_option maxRecDepth 20000 in
theorem gX7_makeBytes_X7_low : GoodIn wsX7_makeBytes (wsV RX7 101 RX7 yX7_low wsX7_low) := goodIn_app (goodIn_of _ (by decide +kernel)) ggX7_makeBytes_X7_low
theorem dX7_makeBytes_0 : decode cX7_makeBytes 0 = .ok (.aload_n 0, 1) := by decide +kernel
theorem dX7_makeBytes_1 : decode cX7_makeBytes 1 = .ok (.aload_n 0, 1) := by decide +kernel
theorem dX7_makeBytes_2 : decode cX7_makeBytes 2 = .ok (.iload_n 1, 1) := by decide +kernel
theorem dX7_makeBytes_3 : decode cX7_makeBytes 3 = .ok (.invokevirtual 75, 3) := by decide +kernel
theorem dX7_makeBytes_6 : decode cX7_makeBytes 6 = .ok (.ifCond .ne 7, 3) := by decide +kernel
theorem dX7_makeBytes_9 : decode cX7_makeBytes 9 = .ok (.iconst 1, 1) := by decide +kernel
theorem dX7_makeBytes_10 : decode cX7_makeBytes 10 = .ok (.goto 18, 3) := by decide +kernel
theorem dX7_makeBytes_13 : decode cX7_makeBytes 13 = .ok (.iload_n 2, 1) := by decide +kernel
theorem dX7_makeBytes_14 : decode cX7_makeBytes 14 = .ok (.ifCond .lt 9, 3) := by decide +kernel
theorem dX7_makeBytes_17 : decode cX7_makeBytes 17 = .ok (.iload_n 2, 1) := by decide +kernel
theorem dX7_makeBytes_18 : decode cX7_makeBytes 18 = .ok (.bipush 64, 2) := by decide +kernel
theorem dX7_makeBytes_20 : decode cX7_makeBytes 20 = .ok (.if_icmp .le 7, 3) := by decide +kernel
theorem dX7_makeBytes_23 : decode cX7_makeBytes 23 = .ok (.iconst 2, 1) := by decide +kernel
theorem dX7_makeBytes_24 : decode cX7_makeBytes 24 = .ok (.goto 4, 3) := by decide +kernel
theorem dX7_makeBytes_27 : decode cX7_makeBytes 27 = .ok (.iconst 0, 1) := by decide +kernel
theorem dX7_makeBytes_28 : decode cX7_makeBytes 28 = .ok (.invokevirtual 87, 3) := by decide +kernel
theorem dX7_makeBytes_31 : decode cX7_makeBytes 31 = .ok (.ifCond .eq 5, 3) := by decide +kernel
theorem dX7_makeBytes_34 : decode cX7_makeBytes 34 = .ok (.iconst 0, 1) := by decide +kernel
theorem dX7_makeBytes_35 : decode cX7_makeBytes 35 = .ok (.ireturn, 1) := by decide +kernel
theorem dX7_makeBytes_36 : decode cX7_makeBytes 36 = .ok (.aload_n 0, 1) := by decide +kernel
theorem dX7_makeBytes_37 : decode cX7_makeBytes 37 = .ok (.getfield 22, 3) := by decide +kernel
theorem dX7_makeBytes_40 : decode cX7_makeBytes 40 = .ok (.aload_n 0, 1) := by decide +kernel
theorem dX7_makeBytes_41 : decode cX7_makeBytes 41 = .ok (.getfield 25, 3) := by decide +kernel
theorem dX7_makeBytes_44 : decode cX7_makeBytes 44 = .ok (.iload_n 1, 1) := by decide +kernel
theorem dX7_makeBytes_45 : decode cX7_makeBytes 45 = .ok (.iaload, 1) := by decide +kernel
theorem dX7_makeBytes_46 : decode cX7_makeBytes 46 = .ok (.iaload, 1) := by decide +kernel
theorem dX7_makeBytes_47 : decode cX7_makeBytes 47 = .ok (.istore 5, 2) := by decide +kernel
theorem dX7_makeBytes_49 : decode cX7_makeBytes 49 = .ok (.aload_n 0, 1) := by decide +kernel
theorem dX7_makeBytes_50 : decode cX7_makeBytes 50 = .ok (.invokevirtual 98, 3) := by decide +kernel
theorem dX7_makeBytes_53 : decode cX7_makeBytes 53 = .ok (.istore 6, 2) := by decide +kernel
theorem dX7_makeBytes_55 : decode cX7_makeBytes 55 = .ok (.iconst 0, 1) := by decide +kernel
theorem dX7_makeBytes_56 : decode cX7_makeBytes 56 = .ok (.istore 7, 2) := by decide +kernel
theorem dX7_makeBytes_58 : decode cX7_makeBytes 58 = .ok (.iload 7, 2) := by decide +kernel
theorem dX7_makeBytes_60 : decode cX7_makeBytes 60 = .ok (.iload_n 2, 1) := by decide +kernel
theorem dX7_makeBytes_61 : decode cX7_makeBytes 61 = .ok (.if_icmp .ge 33, 3) := by decide +kernel
theorem dX7_makeBytes_64 : decode cX7_makeBytes 64 = .ok (.aload_n 0, 1) := by decide +kernel
theorem dX7_makeBytes_65 : decode cX7_makeBytes 65 = .ok (.getfield 19, 3) := by decide +kernel
theorem dX7_makeBytes_68 : decode cX7_makeBytes 68 = .ok (.bipush 64, 2) := by decide +kernel
theorem dX7_makeBytes_70 : decode cX7_makeBytes 70 = .ok (.iload 6, 2) := by decide +kernel
theorem dX7_makeBytes_72 : decode cX7_makeBytes 72 = .ok (.imul, 1) := by decide +kernel
theorem dX7_makeBytes_73 : decode cX7_makeBytes 73 = .ok (.iload 7, 2) := by decide +kernel
theorem dX7_makeBytes_75 : decode cX7_makeBytes 75 = .ok (.iadd, 1) := by decide +kernel
theorem dX7_makeBytes_76 : decode cX7_makeBytes 76 = .ok (.aload_n 0, 1) := by decide +kernel
theorem dX7_makeBytes_77 : decode cX7_makeBytes 77 = .ok (.iload_n 3, 1) := by decide +kernel
theorem dX7_makeBytes_78 : decode cX7_makeBytes 78 = .ok (.iload 7, 2) := by decide +kernel
theorem dX7_makeBytes_80 : decode cX7_makeBytes 80 = .ok (.iload 4, 2) := by decide +kernel
theorem dX7_makeBytes_82 : decode cX7_makeBytes 82 = .ok (.imul, 1) := by decide +kernel
theorem dX7_makeBytes_83 : decode cX7_makeBytes 83 = .ok (.iadd, 1) := by decide +kernel
theorem dX7_makeBytes_84 : decode cX7_makeBytes 84 = .ok (.invokevirtual 101, 3) := by decide +kernel
theorem dX7_makeBytes_87 : decode cX7_makeBytes 87 = .ok (.iastore, 1) := by decide +kernel
theorem dX7_makeBytes_88 : decode cX7_makeBytes 88 = .ok (.iinc 7 1, 3) := by decide +kernel
theorem dX7_makeBytes_91 : decode cX7_makeBytes 91 = .ok (.goto (-33), 3) := by decide +kernel
theorem dX7_makeBytes_94 : decode cX7_makeBytes 94 = .ok (.aload_n 0, 1) := by decide +kernel
theorem dX7_makeBytes_95 : decode cX7_makeBytes 95 = .ok (.getfield 22, 3) := by decide +kernel
theorem dX7_makeBytes_98 : decode cX7_makeBytes 98 = .ok (.iload 6, 2) := by decide +kernel
theorem dX7_makeBytes_100 : decode cX7_makeBytes 100 = .ok (.iload_n 2, 1) := by decide +kernel
theorem dX7_makeBytes_101 : decode cX7_makeBytes 101 = .ok (.iastore, 1) := by decide +kernel
theorem dX7_makeBytes_102 : decode cX7_makeBytes 102 = .ok (.aload_n 0, 1) := by decide +kernel
theorem dX7_makeBytes_103 : decode cX7_makeBytes 103 = .ok (.getfield 25, 3) := by decide +kernel
theorem dX7_makeBytes_106 : decode cX7_makeBytes 106 = .ok (.iload_n 1, 1) := by decide +kernel
theorem dX7_makeBytes_107 : decode cX7_makeBytes 107 = .ok (.iload 6, 2) := by decide +kernel
theorem dX7_makeBytes_109 : decode cX7_makeBytes 109 = .ok (.iastore, 1) := by decide +kernel
theorem dX7_makeBytes_110 : decode cX7_makeBytes 110 = .ok (.iload 5, 2) := by decide +kernel
theorem dX7_makeBytes_112 : decode cX7_makeBytes 112 = .ok (.ireturn, 1) := by decide +kernel
set_option maxRecDepth 20000 in
theorem ggX7_putByte_X7_isBytePart : GoodIn wsX7_putByte wsX7_isBytePart := goodIn_ca (goodIn_r _ [7, 8, 1, 9, 10, 11, 6, 12, 22, 23, 24, 25, 26, 27, 28, 29, 30, 31, 32, 33, 34, 35, 36, 37, 38, 39, 40, 41, 42] (by decide +kernel) (by decide +kernel)) (goodIn_sub (fun _ h => List.mem_cons_of_mem _ (List.mem_append_right _ h)) (by decide +kernel))
set_option maxRecDepth 20000 in
theorem gX7_putByte_X7_isBytePart : GoodIn wsX7_putByte (wsV RX7 104 RX7 yX7_isBytePart wsX7_isBytePart) := goodIn_app (goodIn_of _ (by decide +kernel)) ggX7_putByte_X7_isBytePart
set_option maxRecDepth 20000 in
theorem ggX7_putByte_X7_isWrong : GoodIn wsX7_putByte wsX7_isWrong := goodIn_r _ [16, 17, 22, 23, 24, 25, 26, 27, 28, 29, 30, 31, 32, 33, 34, 35, 36, 37, 38, 39, 40, 41, 42] (by decide +kernel) (by decide +kernel)
set_option maxRecDepth 20000 in
theorem gX7_putByte_X7_isWrong : GoodIn wsX7_putByte (wsV RX7 87 RX7 yX7_isWrong wsX7_isWrong) := goodIn_app (goodIn_of _ (by decide +kernel)) ggX7_putByte_X7_isWrong
set_option maxRecDepth 20000 in
theorem ggX7_putByte_X7_low : GoodIn wsX7_putByte wsX7_low := goodIn_r _ [21] (by decide +kernel) (by decide +kernel)
set_option maxRecDepth 20000 in
theorem gX7_putByte_X7_low : GoodIn wsX7_putByte (wsV RX7 101 RX7 yX7_low wsX7_low) := goodIn_app (goodIn_of _ (by decide +kernel)) ggX7_putByte_X7_low
theorem dX7_putByte_0 : decode cX7_putByte 0 = .ok (.aload_n 0, 1) := by decide +kernel
theorem dX7_putByte_1 : decode cX7_putByte 1 = .ok (.aload_n 0, 1) := by decide +kernel
theorem dX7_putByte_2 : decode cX7_putByte 2 = .ok (.iload_n 1, 1) := by decide +kernel
theorem dX7_putByte_3 : decode cX7_putByte 3 = .ok (.iload_n 2, 1) := by decide +kernel
theorem dX7_putByte_4 : decode cX7_putByte 4 = .ok (.iconst 1, 1) := by decide +kernel
theorem dX7_putByte_5 : decode cX7_putByte 5 = .ok (.invokevirtual 104, 3) := by decide +kernel
theorem dX7_putByte_8 : decode cX7_putByte 8 = .ok (.ifCond .eq 7, 3) := by decide +kernel
theorem dX7_putByte_11 : decode cX7_putByte 11 = .ok (.iconst 0, 1) := by decide +kernel
theorem dX7_putByte_12 : decode cX7_putByte 12 = .ok (.goto 4, 3) := by decide +kernel
theorem dX7_putByte_15 : decode cX7_putByte 15 = .ok (.iconst 1, 1) := by decide +kernel
theorem dX7_putByte_16 : decode cX7_putByte 16 = .ok (.invokevirtual 87, 3) := by decide +kernel
theorem dX7_putByte_19 : decode cX7_putByte 19 = .ok (.ifCond .eq 5, 3) := by decide +kernel
theorem dX7_putByte_22 : decode cX7_putByte 22 = .ok (.iconst 0, 1) := by decide +kernel
theorem dX7_putByte_23 : decode cX7_putByte 23 = .ok (.ireturn, 1) := by decide +kernel
theorem dX7_putByte_24 : decode cX7_putByte 24 = .ok (.bipush 64, 2) := by decide +kernel
theorem dX7_putByte_26 : decode cX7_putByte 26 = .ok (.aload_n 0, 1) := by decide +kernel
theorem dX7_putByte_27 : decode cX7_putByte 27 = .ok (.getfield 25, 3) := by decide +kernel
theorem dX7_putByte_30 : decode cX7_putByte 30 = .ok (.iload_n 1, 1) := by decide +kernel
theorem dX7_putByte_31 : decode cX7_putByte 31 = .ok (.iaload, 1) := by decide +kernel
theorem dX7_putByte_32 : decode cX7_putByte 32 = .ok (.imul, 1) := by decide +kernel
theorem dX7_putByte_33 : decode cX7_putByte 33 = .ok (.iload_n 2, 1) := by decide +kernel
theorem dX7_putByte_34 : decode cX7_putByte 34 = .ok (.iadd, 1) := by decide +kernel
theorem dX7_putByte_35 : decode cX7_putByte 35 = .ok (.istore 4, 2) := by decide +kernel
theorem dX7_putByte_37 : decode cX7_putByte 37 = .ok (.aload_n 0, 1) := by decide +kernel
theorem dX7_putByte_38 : decode cX7_putByte 38 = .ok (.getfield 19, 3) := by decide +kernel
theorem dX7_putByte_41 : decode cX7_putByte 41 = .ok (.iload 4, 2) := by decide +kernel
theorem dX7_putByte_43 : decode cX7_putByte 43 = .ok (.iaload, 1) := by decide +kernel
theorem dX7_putByte_44 : decode cX7_putByte 44 = .ok (.istore 5, 2) := by decide +kernel
theorem dX7_putByte_46 : decode cX7_putByte 46 = .ok (.aload_n 0, 1) := by decide +kernel
theorem dX7_putByte_47 : decode cX7_putByte 47 = .ok (.getfield 19, 3) := by decide +kernel
theorem dX7_putByte_50 : decode cX7_putByte 50 = .ok (.iload 4, 2) := by decide +kernel
theorem dX7_putByte_52 : decode cX7_putByte 52 = .ok (.aload_n 0, 1) := by decide +kernel
theorem dX7_putByte_53 : decode cX7_putByte 53 = .ok (.iload_n 3, 1) := by decide +kernel
theorem dX7_putByte_54 : decode cX7_putByte 54 = .ok (.invokevirtual 101, 3) := by decide +kernel
theorem dX7_putByte_57 : decode cX7_putByte 57 = .ok (.iastore, 1) := by decide +kernel
theorem dX7_putByte_58 : decode cX7_putByte 58 = .ok (.iload 5, 2) := by decide +kernel
theorem dX7_putByte_60 : decode cX7_putByte 60 = .ok (.ireturn, 1) := by decide +kernel
set_option maxRecDepth 20000 in
theorem ggX7_getByte_X7_isBytePart : GoodIn wsX7_getByte wsX7_isBytePart := goodIn_ca (goodIn_r _ [7, 8, 2, 9, 10, 11, 6, 12, 18, 19, 20, 21, 22, 23, 24, 25, 26, 27, 28, 29, 30, 31, 32, 33, 34, 35, 36, 37, 38] (by decide +kernel) (by decide +kernel)) (goodIn_sub (fun _ h => List.mem_cons_of_mem _ (List.mem_append_right _ h)) (by decide +kernel))
set_option maxRecDepth 20000 in
theorem gX7_getByte_X7_isBytePart : GoodIn wsX7_getByte (wsV RX7 104 RX7 yX7_isBytePart wsX7_isBytePart) := goodIn_app (goodIn_of _ (by decide +kernel)) ggX7_getByte_X7_isBytePart
set_option maxRecDepth 20000 in
theorem ggX7_getByte_X7_isWrong : GoodIn wsX7_getByte wsX7_isWrong := goodIn_r _ [16, 17, 18, 19, 20, 21, 22, 23, 24, 25, 26, 27, 28, 29, 30, 31, 32, 33, 34, 35, 36, 37, 38] (by decide +kernel) (by decide +kernel)
set_option maxRecDepth 20000 in
theorem gX7_getByte_X7_isWrong : GoodIn wsX7_getByte (wsV RX7 87 RX7 yX7_isWrong wsX7_isWrong) := goodIn_app (goodIn_of _ (by decide +kernel)) ggX7_getByte_X7_isWrong
theorem dX7_getByte_0 : decode cX7_getByte 0 = .ok (.aload_n 0, 1) := by decide +kernel
theorem dX7_getByte_1 : decode cX7_getByte 1 = .ok (.aload_n 0, 1) := by decide +kernel
theorem dX7_getByte_2 : decode cX7_getByte 2 = .ok (.iload_n 1, 1) := by decide +kernel
theorem dX7_getByte_3 : decode cX7_getByte 3 = .ok (.iload_n 2, 1) := by decide +kernel
theorem dX7_getByte_4 : decode cX7_getByte 4 = .ok (.iconst 1, 1) := by decide +kernel
theorem dX7_getByte_5 : decode cX7_getByte 5 = .ok (.invokevirtual 104, 3) := by decide +kernel
theorem dX7_getByte_8 : decode cX7_getByte 8 = .ok (.ifCond .eq 7, 3) := by decide +kernel
theorem dX7_getByte_11 : decode cX7_getByte 11 = .ok (.iconst 0, 1) := by decide +kernel
theorem dX7_getByte_12 : decode cX7_getByte 12 = .ok (.goto 4, 3) := by decide +kernel
theorem dX7_getByte_15 : decode cX7_getByte 15 = .ok (.iconst 1, 1) := by decide +kernel
theorem dX7_getByte_16 : decode cX7_getByte 16 = .ok (.invokevirtual 87, 3) := by decide +kernel
theorem dX7_getByte_19 : decode cX7_getByte 19 = .ok (.ifCond .eq 7, 3) := by decide +kernel
theorem dX7_getByte_22 : decode cX7_getByte 22 = .ok (.iconst 0, 1) := by decide +kernel
theorem dX7_getByte_23 : decode cX7_getByte 23 = .ok (.goto 19, 3) := by decide +kernel
theorem dX7_getByte_26 : decode cX7_getByte 26 = .ok (.aload_n 0, 1) := by decide +kernel
theorem dX7_getByte_27 : decode cX7_getByte 27 = .ok (.getfield 19, 3) := by decide +kernel
theorem dX7_getByte_30 : decode cX7_getByte 30 = .ok (.bipush 64, 2) := by decide +kernel
theorem dX7_getByte_32 : decode cX7_getByte 32 = .ok (.aload_n 0, 1) := by decide +kernel
theorem dX7_getByte_33 : decode cX7_getByte 33 = .ok (.getfield 25, 3) := by decide +kernel
theorem dX7_getByte_36 : decode cX7_getByte 36 = .ok (.iload_n 1, 1) := by decide +kernel
theorem dX7_getByte_37 : decode cX7_getByte 37 = .ok (.iaload, 1) := by decide +kernel
theorem dX7_getByte_38 : decode cX7_getByte 38 = .ok (.imul, 1) := by decide +kernel
theorem dX7_getByte_39 : decode cX7_getByte 39 = .ok (.iload_n 2, 1) := by decide +kernel
theorem dX7_getByte_40 : decode cX7_getByte 40 = .ok (.iadd, 1) := by decide +kernel
theorem dX7_getByte_41 : decode cX7_getByte 41 = .ok (.iaload, 1) := by decide +kernel
theorem dX7_getByte_42 : decode cX7_getByte 42 = .ok (.ireturn, 1) := by decide +kernel
theorem dX7_emptied_0 : decode cX7_emptied 0 = .ok (.aload_n 0, 1) := by decide +kernel
theorem dX7_emptied_1 : decode cX7_emptied 1 = .ok (.getfield 31, 3) := by decide +kernel
theorem dX7_emptied_4 : decode cX7_emptied 4 = .ok (.iload_n 1, 1) := by decide +kernel
theorem dX7_emptied_5 : decode cX7_emptied 5 = .ok (.iaload, 1) := by decide +kernel
theorem dX7_emptied_6 : decode cX7_emptied 6 = .ok (.istore_n 2, 1) := by decide +kernel
theorem dX7_emptied_7 : decode cX7_emptied 7 = .ok (.aload_n 0, 1) := by decide +kernel
theorem dX7_emptied_8 : decode cX7_emptied 8 = .ok (.getfield 31, 3) := by decide +kernel
theorem dX7_emptied_11 : decode cX7_emptied 11 = .ok (.iload_n 1, 1) := by decide +kernel
theorem dX7_emptied_12 : decode cX7_emptied 12 = .ok (.iconst 0, 1) := by decide +kernel
theorem dX7_emptied_13 : decode cX7_emptied 13 = .ok (.iastore, 1) := by decide +kernel
theorem dX7_emptied_14 : decode cX7_emptied 14 = .ok (.iload_n 2, 1) := by decide +kernel
theorem dX7_emptied_15 : decode cX7_emptied 15 = .ok (.ireturn, 1) := by decide +kernel
theorem dX7_adds_0 : decode cX7_adds 0 = .ok (.aload_n 0, 1) := by decide +kernel
theorem dX7_adds_1 : decode cX7_adds 1 = .ok (.getfield 28, 3) := by decide +kernel
theorem dX7_adds_4 : decode cX7_adds 4 = .ok (.sipush 256, 3) := by decide +kernel
theorem dX7_adds_7 : decode cX7_adds 7 = .ok (.iload_n 1, 1) := by decide +kernel
theorem dX7_adds_8 : decode cX7_adds 8 = .ok (.imul, 1) := by decide +kernel
theorem dX7_adds_9 : decode cX7_adds 9 = .ok (.aload_n 0, 1) := by decide +kernel
theorem dX7_adds_10 : decode cX7_adds 10 = .ok (.getfield 31, 3) := by decide +kernel
theorem dX7_adds_13 : decode cX7_adds 13 = .ok (.iload_n 1, 1) := by decide +kernel
theorem dX7_adds_14 : decode cX7_adds 14 = .ok (.iaload, 1) := by decide +kernel
theorem dX7_adds_15 : decode cX7_adds 15 = .ok (.iadd, 1) := by decide +kernel
theorem dX7_adds_16 : decode cX7_adds 16 = .ok (.iload_n 2, 1) := by decide +kernel
theorem dX7_adds_17 : decode cX7_adds 17 = .ok (.sipush 255, 3) := by decide +kernel
theorem dX7_adds_20 : decode cX7_adds 20 = .ok (.iand, 1) := by decide +kernel
theorem dX7_adds_21 : decode cX7_adds 21 = .ok (.iastore, 1) := by decide +kernel
theorem dX7_adds_22 : decode cX7_adds 22 = .ok (.aload_n 0, 1) := by decide +kernel
theorem dX7_adds_23 : decode cX7_adds 23 = .ok (.getfield 31, 3) := by decide +kernel
theorem dX7_adds_26 : decode cX7_adds 26 = .ok (.iload_n 1, 1) := by decide +kernel
theorem dX7_adds_27 : decode cX7_adds 27 = .ok (.dup2, 1) := by decide +kernel
theorem dX7_adds_28 : decode cX7_adds 28 = .ok (.iaload, 1) := by decide +kernel
theorem dX7_adds_29 : decode cX7_adds 29 = .ok (.iconst 1, 1) := by decide +kernel
theorem dX7_adds_30 : decode cX7_adds 30 = .ok (.iadd, 1) := by decide +kernel
theorem dX7_adds_31 : decode cX7_adds 31 = .ok (.iastore, 1) := by decide +kernel
theorem dX7_adds_32 : decode cX7_adds 32 = .ok (.return_, 1) := by decide +kernel
theorem dX7_isFull_0 : decode cX7_isFull 0 = .ok (.aload_n 0, 1) := by decide +kernel
theorem dX7_isFull_1 : decode cX7_isFull 1 = .ok (.getfield 31, 3) := by decide +kernel
theorem dX7_isFull_4 : decode cX7_isFull 4 = .ok (.iload_n 1, 1) := by decide +kernel
theorem dX7_isFull_5 : decode cX7_isFull 5 = .ok (.iaload, 1) := by decide +kernel
theorem dX7_isFull_6 : decode cX7_isFull 6 = .ok (.iload_n 2, 1) := by decide +kernel
theorem dX7_isFull_7 : decode cX7_isFull 7 = .ok (.iadd, 1) := by decide +kernel
theorem dX7_isFull_8 : decode cX7_isFull 8 = .ok (.sipush 256, 3) := by decide +kernel
theorem dX7_isFull_11 : decode cX7_isFull 11 = .ok (.if_icmp .le 7, 3) := by decide +kernel
theorem dX7_isFull_14 : decode cX7_isFull 14 = .ok (.iconst 1, 1) := by decide +kernel
theorem dX7_isFull_15 : decode cX7_isFull 15 = .ok (.goto 4, 3) := by decide +kernel
theorem dX7_isFull_18 : decode cX7_isFull 18 = .ok (.iconst 0, 1) := by decide +kernel
theorem dX7_isFull_19 : decode cX7_isFull 19 = .ok (.ireturn, 1) := by decide +kernel
set_option maxRecDepth 20000 in
theorem ggX7_one_X7_isOther : GoodIn wsX7_one wsX7_isOther := goodIn_r _ [6] (by decide +kernel) (by decide +kernel)
set_option maxRecDepth 20000 in
theorem gX7_one_X7_isOther : GoodIn wsX7_one (wsV RX7 107 RX7 yX7_isOther wsX7_isOther) := goodIn_app (goodIn_of _ (by decide +kernel)) ggX7_one_X7_isOther
set_option maxRecDepth 20000 in
theorem ggX7_one_X7_isFull : GoodIn wsX7_one wsX7_isFull := goodIn_ca (goodIn_r _ [10, 1, 21, 22, 23, 24, 25, 26, 27, 28, 29, 30, 31, 32, 33, 34, 35, 36, 37, 38, 39, 40, 41] (by decide +kernel) (by decide +kernel)) (goodIn_sub (fun _ h => List.mem_cons_of_mem _ (List.mem_append_right _ h)) (by decide +kernel))
set_option maxRecDepth 20000 in
theorem gX7_one_X7_isFull : GoodIn wsX7_one (wsV RX7 110 RX7 yX7_isFull wsX7_isFull) := goodIn_app (goodIn_of _ (by decide +kernel)) ggX7_one_X7_isFull
set_option maxRecDepth 20000 in
theorem ggX7_one_X7_isWrong : GoodIn wsX7_one wsX7_isWrong := goodIn_r _ [14, 15, 21, 22, 23, 24, 25, 26, 27, 28, 29, 30, 31, 32, 33, 34, 35, 36, 37, 38, 39, 40, 41] (by decide +kernel) (by decide +kernel)
set_option maxRecDepth 20000 in
theorem gX7_one_X7_isWrong : GoodIn wsX7_one (wsV RX7 87 RX7 yX7_isWrong wsX7_isWrong) := goodIn_app (goodIn_of _ (by decide +kernel)) ggX7_one_X7_isWrong
set_option maxRecDepth 20000 in
theorem ggX7_one_X7_adds : GoodIn wsX7_one wsX7_adds := goodIn_ca (goodIn_r _ [19, 20, 1, 21, 22, 23, 24, 25, 26, 27, 28, 29, 30, 31, 32, 33, 34, 35, 36, 37, 38, 39, 40, 41] (by decide +kernel) (by decide +kernel)) (goodIn_sub (fun _ h => List.mem_cons_of_mem _ (List.mem_append_right _ h)) (by decide +kernel))
set_option maxRecDepth 20000 in
theorem gX7_one_X7_adds : GoodIn wsX7_one (wsV RX7 114 RX7 yX7_adds wsX7_adds) := goodIn_app (goodIn_of _ (by decide +kernel)) ggX7_one_X7_adds
theorem dX7_one_0 : decode cX7_one 0 = .ok (.aload_n 0, 1) := by decide +kernel
theorem dX7_one_1 : decode cX7_one 1 = .ok (.aload_n 0, 1) := by decide +kernel
theorem dX7_one_2 : decode cX7_one 2 = .ok (.iload_n 1, 1) := by decide +kernel
theorem dX7_one_3 : decode cX7_one 3 = .ok (.invokevirtual 107, 3) := by decide +kernel
theorem dX7_one_6 : decode cX7_one 6 = .ok (.ifCond .ne 7, 3) := by decide +kernel
theorem dX7_one_9 : decode cX7_one 9 = .ok (.iconst 1, 1) := by decide +kernel
theorem dX7_one_10 : decode cX7_one 10 = .ok (.goto 18, 3) := by decide +kernel
theorem dX7_one_13 : decode cX7_one 13 = .ok (.aload_n 0, 1) := by decide +kernel
theorem dX7_one_14 : decode cX7_one 14 = .ok (.iload_n 2, 1) := by decide +kernel
theorem dX7_one_15 : decode cX7_one 15 = .ok (.iload 4, 2) := by decide +kernel
theorem dX7_one_17 : decode cX7_one 17 = .ok (.invokevirtual 110, 3) := by decide +kernel
theorem dX7_one_20 : decode cX7_one 20 = .ok (.ifCond .eq 7, 3) := by decide +kernel
theorem dX7_one_23 : decode cX7_one 23 = .ok (.iconst 2, 1) := by decide +kernel
theorem dX7_one_24 : decode cX7_one 24 = .ok (.goto 4, 3) := by decide +kernel
theorem dX7_one_27 : decode cX7_one 27 = .ok (.iconst 0, 1) := by decide +kernel
theorem dX7_one_28 : decode cX7_one 28 = .ok (.invokevirtual 87, 3) := by decide +kernel
theorem dX7_one_31 : decode cX7_one 31 = .ok (.ifCond .eq 5, 3) := by decide +kernel
theorem dX7_one_34 : decode cX7_one 34 = .ok (.iconst 0, 1) := by decide +kernel
theorem dX7_one_35 : decode cX7_one 35 = .ok (.ireturn, 1) := by decide +kernel
theorem dX7_one_36 : decode cX7_one 36 = .ok (.iconst 0, 1) := by decide +kernel
theorem dX7_one_37 : decode cX7_one 37 = .ok (.istore 5, 2) := by decide +kernel
theorem dX7_one_39 : decode cX7_one 39 = .ok (.iload 5, 2) := by decide +kernel
theorem dX7_one_41 : decode cX7_one 41 = .ok (.iload 4, 2) := by decide +kernel
theorem dX7_one_43 : decode cX7_one 43 = .ok (.if_icmp .ge 15, 3) := by decide +kernel
theorem dX7_one_46 : decode cX7_one 46 = .ok (.aload_n 0, 1) := by decide +kernel
theorem dX7_one_47 : decode cX7_one 47 = .ok (.iload_n 2, 1) := by decide +kernel
theorem dX7_one_48 : decode cX7_one 48 = .ok (.iload_n 3, 1) := by decide +kernel
theorem dX7_one_49 : decode cX7_one 49 = .ok (.invokevirtual 114, 3) := by decide +kernel
theorem dX7_one_52 : decode cX7_one 52 = .ok (.iinc 5 1, 3) := by decide +kernel
theorem dX7_one_55 : decode cX7_one 55 = .ok (.goto (-16), 3) := by decide +kernel
theorem dX7_one_58 : decode cX7_one 58 = .ok (.aload_n 0, 1) := by decide +kernel
theorem dX7_one_59 : decode cX7_one 59 = .ok (.getfield 31, 3) := by decide +kernel
theorem dX7_one_62 : decode cX7_one 62 = .ok (.iload_n 2, 1) := by decide +kernel
theorem dX7_one_63 : decode cX7_one 63 = .ok (.iaload, 1) := by decide +kernel
theorem dX7_one_64 : decode cX7_one 64 = .ok (.ireturn, 1) := by decide +kernel
set_option maxRecDepth 20000 in
theorem ggX7_part_X7_isOther : GoodIn wsX7_part wsX7_isOther := goodIn_r _ [8] (by decide +kernel) (by decide +kernel)
set_option maxRecDepth 20000 in
theorem gX7_part_X7_isOther : GoodIn wsX7_part (wsV RX7 107 RX7 yX7_isOther wsX7_isOther) := goodIn_app (goodIn_of _ (by decide +kernel)) ggX7_part_X7_isOther
set_option maxRecDepth 20000 in
theorem ggX7_part_X7_isPart : GoodIn wsX7_part wsX7_isPart := goodIn_ca (goodIn_r _ [12, 13, 14, 15, 7, 16, 17, 18, 19, 20, 21, 2, 36, 37, 38, 39, 40, 41, 42, 43, 44, 45, 46, 47, 48, 49, 50, 51, 52, 53, 54, 55, 56] (by decide +kernel) (by decide +kernel)) (goodIn_sub (fun _ h => List.mem_cons_of_mem _ (List.mem_append_right _ h)) (by decide +kernel))
set_option maxRecDepth 20000 in
theorem gX7_part_X7_isPart : GoodIn wsX7_part (wsV RX7 94 RX7 yX7_isPart wsX7_isPart) := goodIn_app (goodIn_of _ (by decide +kernel)) ggX7_part_X7_isPart
set_option maxRecDepth 20000 in
theorem ggX7_part_X7_isFull : GoodIn wsX7_part wsX7_isFull := goodIn_ca (goodIn_r _ [25, 3, 36, 37, 38, 39, 40, 41, 42, 43, 44, 45, 46, 47, 48, 49, 50, 51, 52, 53, 54, 55, 56] (by decide +kernel) (by decide +kernel)) (goodIn_sub (fun _ h => List.mem_cons_of_mem _ (List.mem_append_right _ h)) (by decide +kernel))
set_option maxRecDepth 20000 in
theorem gX7_part_X7_isFull : GoodIn wsX7_part (wsV RX7 110 RX7 yX7_isFull wsX7_isFull) := goodIn_app (goodIn_of _ (by decide +kernel)) ggX7_part_X7_isFull
set_option maxRecDepth 20000 in
theorem ggX7_part_X7_isWrong : GoodIn wsX7_part wsX7_isWrong := goodIn_r _ [29, 30, 36, 37, 38, 39, 40, 41, 42, 43, 44, 45, 46, 47, 48, 49, 50, 51, 52, 53, 54, 55, 56] (by decide +kernel) (by decide +kernel)
set_option maxRecDepth 20000 in
theorem gX7_part_X7_isWrong : GoodIn wsX7_part (wsV RX7 87 RX7 yX7_isWrong wsX7_isWrong) := goodIn_app (goodIn_of _ (by decide +kernel)) ggX7_part_X7_isWrong
set_option maxRecDepth 20000 in
theorem ggX7_part_X7_adds : GoodIn wsX7_part wsX7_adds := goodIn_ca (goodIn_r _ [34, 35, 3, 36, 37, 38, 39, 40, 41, 42, 43, 44, 45, 46, 47, 48, 49, 50, 51, 52, 53, 54, 55, 56] (by decide +kernel) (by decide +kernel)) (goodIn_sub (fun _ h => List.mem_cons_of_mem _ (List.mem_append_right _ h)) (by decide +kernel))
set_option maxRecDepth 20000 in
theorem gX7_part_X7_adds : GoodIn wsX7_part (wsV RX7 114 RX7 yX7_adds wsX7_adds) := goodIn_app (goodIn_of _ (by decide +kernel)) ggX7_part_X7_adds
theorem dX7_part_0 : decode cX7_part 0 = .ok (.aload_n 0, 1) := by decide +kernel
theorem dX7_part_1 : decode cX7_part 1 = .ok (.aload_n 0, 1) := by decide +kernel
theorem dX7_part_2 : decode cX7_part 2 = .ok (.iload_n 1, 1) := by decide +kernel
theorem dX7_part_3 : decode cX7_part 3 = .ok (.invokevirtual 107, 3) := by decide +kernel
theorem dX7_part_6 : decode cX7_part 6 = .ok (.ifCond .eq 15, 3) := by decide +kernel
theorem dX7_part_9 : decode cX7_part 9 = .ok (.aload_n 0, 1) := by decide +kernel
theorem dX7_part_10 : decode cX7_part 10 = .ok (.iload_n 3, 1) := by decide +kernel
theorem dX7_part_11 : decode cX7_part 11 = .ok (.iload 4, 2) := by decide +kernel
theorem dX7_part_13 : decode cX7_part 13 = .ok (.iload 5, 2) := by decide +kernel
theorem dX7_part_15 : decode cX7_part 15 = .ok (.invokevirtual 94, 3) := by decide +kernel
theorem dX7_part_18 : decode cX7_part 18 = .ok (.ifCond .ne 7, 3) := by decide +kernel
theorem dX7_part_21 : decode cX7_part 21 = .ok (.iconst 1, 1) := by decide +kernel
theorem dX7_part_22 : decode cX7_part 22 = .ok (.goto 18, 3) := by decide +kernel
theorem dX7_part_25 : decode cX7_part 25 = .ok (.aload_n 0, 1) := by decide +kernel
theorem dX7_part_26 : decode cX7_part 26 = .ok (.iload_n 2, 1) := by decide +kernel
theorem dX7_part_27 : decode cX7_part 27 = .ok (.iload 5, 2) := by decide +kernel
theorem dX7_part_29 : decode cX7_part 29 = .ok (.invokevirtual 110, 3) := by decide +kernel
theorem dX7_part_32 : decode cX7_part 32 = .ok (.ifCond .eq 7, 3) := by decide +kernel
theorem dX7_part_35 : decode cX7_part 35 = .ok (.iconst 2, 1) := by decide +kernel
theorem dX7_part_36 : decode cX7_part 36 = .ok (.goto 4, 3) := by decide +kernel
theorem dX7_part_39 : decode cX7_part 39 = .ok (.iconst 0, 1) := by decide +kernel
theorem dX7_part_40 : decode cX7_part 40 = .ok (.invokevirtual 87, 3) := by decide +kernel
theorem dX7_part_43 : decode cX7_part 43 = .ok (.ifCond .eq 5, 3) := by decide +kernel
theorem dX7_part_46 : decode cX7_part 46 = .ok (.iconst 0, 1) := by decide +kernel
theorem dX7_part_47 : decode cX7_part 47 = .ok (.ireturn, 1) := by decide +kernel
theorem dX7_part_48 : decode cX7_part 48 = .ok (.iconst 0, 1) := by decide +kernel
theorem dX7_part_49 : decode cX7_part 49 = .ok (.istore 6, 2) := by decide +kernel
theorem dX7_part_51 : decode cX7_part 51 = .ok (.iload 6, 2) := by decide +kernel
theorem dX7_part_53 : decode cX7_part 53 = .ok (.iload 5, 2) := by decide +kernel
theorem dX7_part_55 : decode cX7_part 55 = .ok (.if_icmp .ge 35, 3) := by decide +kernel
theorem dX7_part_58 : decode cX7_part 58 = .ok (.aload_n 0, 1) := by decide +kernel
theorem dX7_part_59 : decode cX7_part 59 = .ok (.iload_n 2, 1) := by decide +kernel
theorem dX7_part_60 : decode cX7_part 60 = .ok (.aload_n 0, 1) := by decide +kernel
theorem dX7_part_61 : decode cX7_part 61 = .ok (.getfield 7, 3) := by decide +kernel
theorem dX7_part_64 : decode cX7_part 64 = .ok (.sipush 256, 3) := by decide +kernel
theorem dX7_part_67 : decode cX7_part 67 = .ok (.aload_n 0, 1) := by decide +kernel
theorem dX7_part_68 : decode cX7_part 68 = .ok (.getfield 16, 3) := by decide +kernel
theorem dX7_part_71 : decode cX7_part 71 = .ok (.iload_n 3, 1) := by decide +kernel
theorem dX7_part_72 : decode cX7_part 72 = .ok (.iaload, 1) := by decide +kernel
theorem dX7_part_73 : decode cX7_part 73 = .ok (.imul, 1) := by decide +kernel
theorem dX7_part_74 : decode cX7_part 74 = .ok (.iload 4, 2) := by decide +kernel
theorem dX7_part_76 : decode cX7_part 76 = .ok (.iadd, 1) := by decide +kernel
theorem dX7_part_77 : decode cX7_part 77 = .ok (.iload 6, 2) := by decide +kernel
theorem dX7_part_79 : decode cX7_part 79 = .ok (.iadd, 1) := by decide +kernel
theorem dX7_part_80 : decode cX7_part 80 = .ok (.iaload, 1) := by decide +kernel
theorem dX7_part_81 : decode cX7_part 81 = .ok (.invokevirtual 114, 3) := by decide +kernel
theorem dX7_part_84 : decode cX7_part 84 = .ok (.iinc 6 1, 3) := by decide +kernel
theorem dX7_part_87 : decode cX7_part 87 = .ok (.goto (-36), 3) := by decide +kernel
theorem dX7_part_90 : decode cX7_part 90 = .ok (.aload_n 0, 1) := by decide +kernel
theorem dX7_part_91 : decode cX7_part 91 = .ok (.getfield 31, 3) := by decide +kernel
theorem dX7_part_94 : decode cX7_part 94 = .ok (.iload_n 2, 1) := by decide +kernel
theorem dX7_part_95 : decode cX7_part 95 = .ok (.iaload, 1) := by decide +kernel
theorem dX7_part_96 : decode cX7_part 96 = .ok (.ireturn, 1) := by decide +kernel
set_option maxRecDepth 20000 in
theorem ggX7_taken_X7_isOther : GoodIn wsX7_taken wsX7_isOther := goodIn_r _ [8] (by decide +kernel) (by decide +kernel)
set_option maxRecDepth 20000 in
theorem gX7_taken_X7_isOther : GoodIn wsX7_taken (wsV RX7 107 RX7 yX7_isOther wsX7_isOther) := goodIn_app (goodIn_of _ (by decide +kernel)) ggX7_taken_X7_isOther
set_option maxRecDepth 20000 in
theorem ggX7_taken_X7_isRow : GoodIn wsX7_taken wsX7_isRow := goodIn_r _ [12] (by decide +kernel) (by decide +kernel)
set_option maxRecDepth 20000 in
theorem gX7_taken_X7_isRow : GoodIn wsX7_taken (wsV RX7 75 RX7 yX7_isRow wsX7_isRow) := goodIn_app (goodIn_of _ (by decide +kernel)) ggX7_taken_X7_isRow
set_option maxRecDepth 20000 in
theorem ggX7_taken_X7_isWrong : GoodIn wsX7_taken wsX7_isWrong := goodIn_r _ [16, 17, 30, 31, 32, 33, 34, 35, 36, 37, 38, 39, 40, 41, 42, 43, 44, 45, 46, 47, 48, 49, 50] (by decide +kernel) (by decide +kernel)
set_option maxRecDepth 20000 in
theorem gX7_taken_X7_isWrong : GoodIn wsX7_taken (wsV RX7 87 RX7 yX7_isWrong wsX7_isWrong) := goodIn_app (goodIn_of _ (by decide +kernel)) ggX7_taken_X7_isWrong
set_option maxRecDepth 20000 in
theorem ggX7_taken_X7_becomes : GoodIn wsX7_taken wsX7_becomes := goodIn_ca (goodIn_r _ [21, 22, 2, 23, 24, 25, 26, 27, 7, 28, 29, 30, 31, 32, 33, 34, 35, 36, 37, 38, 39, 40, 41, 42, 43, 44, 45, 46, 47, 48, 49, 50] (by decide +kernel) (by decide +kernel)) (goodIn_sub (fun _ h => List.mem_cons_of_mem _ (List.mem_append_right _ h)) (by decide +kernel))
set_option maxRecDepth 20000 in
theorem gX7_taken_X7_becomes : GoodIn wsX7_taken (wsV RX7 90 RX7 yX7_becomes wsX7_becomes) := goodIn_app (goodIn_of _ (by decide +kernel)) ggX7_taken_X7_becomes
theorem dX7_taken_0 : decode cX7_taken 0 = .ok (.aload_n 0, 1) := by decide +kernel
theorem dX7_taken_1 : decode cX7_taken 1 = .ok (.aload_n 0, 1) := by decide +kernel
theorem dX7_taken_2 : decode cX7_taken 2 = .ok (.iload_n 1, 1) := by decide +kernel
theorem dX7_taken_3 : decode cX7_taken 3 = .ok (.invokevirtual 107, 3) := by decide +kernel
theorem dX7_taken_6 : decode cX7_taken 6 = .ok (.ifCond .eq 15, 3) := by decide +kernel
theorem dX7_taken_9 : decode cX7_taken 9 = .ok (.aload_n 0, 1) := by decide +kernel
theorem dX7_taken_10 : decode cX7_taken 10 = .ok (.iload_n 3, 1) := by decide +kernel
theorem dX7_taken_11 : decode cX7_taken 11 = .ok (.invokevirtual 75, 3) := by decide +kernel
theorem dX7_taken_14 : decode cX7_taken 14 = .ok (.ifCond .eq 7, 3) := by decide +kernel
theorem dX7_taken_17 : decode cX7_taken 17 = .ok (.iconst 0, 1) := by decide +kernel
theorem dX7_taken_18 : decode cX7_taken 18 = .ok (.goto 4, 3) := by decide +kernel
theorem dX7_taken_21 : decode cX7_taken 21 = .ok (.iconst 1, 1) := by decide +kernel
theorem dX7_taken_22 : decode cX7_taken 22 = .ok (.invokevirtual 87, 3) := by decide +kernel
theorem dX7_taken_25 : decode cX7_taken 25 = .ok (.ifCond .eq 5, 3) := by decide +kernel
theorem dX7_taken_28 : decode cX7_taken 28 = .ok (.iconst 0, 1) := by decide +kernel
theorem dX7_taken_29 : decode cX7_taken 29 = .ok (.ireturn, 1) := by decide +kernel
theorem dX7_taken_30 : decode cX7_taken 30 = .ok (.iconst 0, 1) := by decide +kernel
theorem dX7_taken_31 : decode cX7_taken 31 = .ok (.istore 4, 2) := by decide +kernel
theorem dX7_taken_33 : decode cX7_taken 33 = .ok (.iload 4, 2) := by decide +kernel
theorem dX7_taken_35 : decode cX7_taken 35 = .ok (.aload_n 0, 1) := by decide +kernel
theorem dX7_taken_36 : decode cX7_taken 36 = .ok (.getfield 31, 3) := by decide +kernel
theorem dX7_taken_39 : decode cX7_taken 39 = .ok (.iload_n 2, 1) := by decide +kernel
theorem dX7_taken_40 : decode cX7_taken 40 = .ok (.iaload, 1) := by decide +kernel
theorem dX7_taken_41 : decode cX7_taken 41 = .ok (.if_icmp .ge 29, 3) := by decide +kernel
theorem dX7_taken_44 : decode cX7_taken 44 = .ok (.aload_n 0, 1) := by decide +kernel
theorem dX7_taken_45 : decode cX7_taken 45 = .ok (.getfield 68, 3) := by decide +kernel
theorem dX7_taken_48 : decode cX7_taken 48 = .ok (.iload 4, 2) := by decide +kernel
theorem dX7_taken_50 : decode cX7_taken 50 = .ok (.aload_n 0, 1) := by decide +kernel
theorem dX7_taken_51 : decode cX7_taken 51 = .ok (.getfield 28, 3) := by decide +kernel
theorem dX7_taken_54 : decode cX7_taken 54 = .ok (.sipush 256, 3) := by decide +kernel
theorem dX7_taken_57 : decode cX7_taken 57 = .ok (.iload_n 2, 1) := by decide +kernel
theorem dX7_taken_58 : decode cX7_taken 58 = .ok (.imul, 1) := by decide +kernel
theorem dX7_taken_59 : decode cX7_taken 59 = .ok (.iload 4, 2) := by decide +kernel
theorem dX7_taken_61 : decode cX7_taken 61 = .ok (.iadd, 1) := by decide +kernel
theorem dX7_taken_62 : decode cX7_taken 62 = .ok (.iaload, 1) := by decide +kernel
theorem dX7_taken_63 : decode cX7_taken 63 = .ok (.iastore, 1) := by decide +kernel
theorem dX7_taken_64 : decode cX7_taken 64 = .ok (.iinc 4 1, 3) := by decide +kernel
theorem dX7_taken_67 : decode cX7_taken 67 = .ok (.goto (-34), 3) := by decide +kernel
theorem dX7_taken_70 : decode cX7_taken 70 = .ok (.aload_n 0, 1) := by decide +kernel
theorem dX7_taken_71 : decode cX7_taken 71 = .ok (.iload_n 3, 1) := by decide +kernel
theorem dX7_taken_72 : decode cX7_taken 72 = .ok (.aload_n 0, 1) := by decide +kernel
theorem dX7_taken_73 : decode cX7_taken 73 = .ok (.getfield 31, 3) := by decide +kernel
theorem dX7_taken_76 : decode cX7_taken 76 = .ok (.iload_n 2, 1) := by decide +kernel
theorem dX7_taken_77 : decode cX7_taken 77 = .ok (.iaload, 1) := by decide +kernel
theorem dX7_taken_78 : decode cX7_taken 78 = .ok (.invokevirtual 90, 3) := by decide +kernel
theorem dX7_taken_81 : decode cX7_taken 81 = .ok (.aload_n 0, 1) := by decide +kernel
theorem dX7_taken_82 : decode cX7_taken 82 = .ok (.getfield 31, 3) := by decide +kernel
theorem dX7_taken_85 : decode cX7_taken 85 = .ok (.iload_n 2, 1) := by decide +kernel
theorem dX7_taken_86 : decode cX7_taken 86 = .ok (.iaload, 1) := by decide +kernel
theorem dX7_taken_87 : decode cX7_taken 87 = .ok (.ireturn, 1) := by decide +kernel
set_option maxRecDepth 20000 in
theorem ggX7_begin_X7_isOther : GoodIn wsX7_begin wsX7_isOther := goodIn_r _ [5] (by decide +kernel) (by decide +kernel)
set_option maxRecDepth 20000 in
theorem gX7_begin_X7_isOther : GoodIn wsX7_begin (wsV RX7 107 RX7 yX7_isOther wsX7_isOther) := goodIn_app (goodIn_of _ (by decide +kernel)) ggX7_begin_X7_isOther
set_option maxRecDepth 20000 in
theorem ggX7_begin_X7_isWrong : GoodIn wsX7_begin wsX7_isWrong := goodIn_r _ [9, 10, 16, 17, 18, 19, 20, 21, 22, 23, 24, 25, 26, 27, 28, 29, 30, 31, 32, 33, 34, 35, 36] (by decide +kernel) (by decide +kernel)
set_option maxRecDepth 20000 in
theorem gX7_begin_X7_isWrong : GoodIn wsX7_begin (wsV RX7 87 RX7 yX7_isWrong wsX7_isWrong) := goodIn_app (goodIn_of _ (by decide +kernel)) ggX7_begin_X7_isWrong
set_option maxRecDepth 20000 in
theorem ggX7_begin_X7_emptied : GoodIn wsX7_begin wsX7_emptied := goodIn_ca (goodIn_r _ [14, 15, 16, 17, 18, 19, 20, 21, 22, 23, 24, 25, 26, 27, 28, 29, 30, 31, 32, 33, 34, 35, 36] (by decide +kernel) (by decide +kernel)) (goodIn_sub (fun _ h => List.mem_cons_of_mem _ (List.mem_append_right _ h)) (by decide +kernel))
set_option maxRecDepth 20000 in
theorem gX7_begin_X7_emptied : GoodIn wsX7_begin (wsV RX7 117 RX7 yX7_emptied wsX7_emptied) := goodIn_app (goodIn_of _ (by decide +kernel)) ggX7_begin_X7_emptied
theorem dX7_begin_0 : decode cX7_begin 0 = .ok (.aload_n 0, 1) := by decide +kernel
theorem dX7_begin_1 : decode cX7_begin 1 = .ok (.aload_n 0, 1) := by decide +kernel
theorem dX7_begin_2 : decode cX7_begin 2 = .ok (.iload_n 1, 1) := by decide +kernel
theorem dX7_begin_3 : decode cX7_begin 3 = .ok (.invokevirtual 107, 3) := by decide +kernel
theorem dX7_begin_6 : decode cX7_begin 6 = .ok (.ifCond .eq 7, 3) := by decide +kernel
theorem dX7_begin_9 : decode cX7_begin 9 = .ok (.iconst 0, 1) := by decide +kernel
theorem dX7_begin_10 : decode cX7_begin 10 = .ok (.goto 4, 3) := by decide +kernel
theorem dX7_begin_13 : decode cX7_begin 13 = .ok (.iconst 1, 1) := by decide +kernel
theorem dX7_begin_14 : decode cX7_begin 14 = .ok (.invokevirtual 87, 3) := by decide +kernel
theorem dX7_begin_17 : decode cX7_begin 17 = .ok (.ifCond .eq 7, 3) := by decide +kernel
theorem dX7_begin_20 : decode cX7_begin 20 = .ok (.iconst 0, 1) := by decide +kernel
theorem dX7_begin_21 : decode cX7_begin 21 = .ok (.goto 8, 3) := by decide +kernel
theorem dX7_begin_24 : decode cX7_begin 24 = .ok (.aload_n 0, 1) := by decide +kernel
theorem dX7_begin_25 : decode cX7_begin 25 = .ok (.iload_n 1, 1) := by decide +kernel
theorem dX7_begin_26 : decode cX7_begin 26 = .ok (.invokevirtual 117, 3) := by decide +kernel
theorem dX7_begin_29 : decode cX7_begin 29 = .ok (.ireturn, 1) := by decide +kernel
set_option maxRecDepth 20000 in
theorem ggX7_write_X7_one : GoodIn wsX7_write wsX7_one := goodIn_ca (goodIn_r _ [5, 6, 7, 8, 9, 4, 10, 11, 12, 13, 14, 15, 16, 17, 18, 19, 20, 21, 22, 23, 24, 25, 26, 27, 28, 29, 30, 31, 32, 33, 34, 35, 36, 37, 38, 39, 40, 41, 42, 43, 44, 45] (by decide +kernel) (by decide +kernel)) (goodIn_sub (fun _ h => List.mem_cons_of_mem _ (List.mem_append_right _ h)) (by decide +kernel))
set_option maxRecDepth 20000 in
theorem gX7_write_X7_one : GoodIn wsX7_write (wsV RX7 120 RX7 yX7_one wsX7_one) := goodIn_app (goodIn_of _ (by decide +kernel)) ggX7_write_X7_one
theorem dX7_write_0 : decode cX7_write 0 = .ok (.aload_n 0, 1) := by decide +kernel
theorem dX7_write_1 : decode cX7_write 1 = .ok (.iload_n 1, 1) := by decide +kernel
theorem dX7_write_2 : decode cX7_write 2 = .ok (.iload_n 1, 1) := by decide +kernel
theorem dX7_write_3 : decode cX7_write 3 = .ok (.iload_n 2, 1) := by decide +kernel
theorem dX7_write_4 : decode cX7_write 4 = .ok (.iconst 1, 1) := by decide +kernel
theorem dX7_write_5 : decode cX7_write 5 = .ok (.invokevirtual 120, 3) := by decide +kernel
theorem dX7_write_8 : decode cX7_write 8 = .ok (.ireturn, 1) := by decide +kernel
set_option maxRecDepth 20000 in
theorem ggX7_writeText_X7_part : GoodIn wsX7_writeText wsX7_part := goodIn_ca (goodIn_r _ [5, 6, 7, 8, 9, 10, 11, 4, 12, 13, 14, 15, 16, 17, 18, 19, 20, 21, 22, 23, 24, 25, 26, 27, 28, 29, 30, 31, 32, 33, 34, 35, 36, 37, 38, 39, 40, 41, 42, 43, 44, 45, 46, 47, 48, 49, 50, 51, 52, 53, 54, 55, 56, 57, 58, 59, 60] (by decide +kernel) (by decide +kernel)) (goodIn_sub (fun _ h => List.mem_cons_of_mem _ (List.mem_append_right _ h)) (by decide +kernel))
set_option maxRecDepth 20000 in
theorem gX7_writeText_X7_part : GoodIn wsX7_writeText (wsV RX7 124 RX7 yX7_part wsX7_part) := goodIn_app (goodIn_of _ (by decide +kernel)) ggX7_writeText_X7_part
theorem dX7_writeText_0 : decode cX7_writeText 0 = .ok (.aload_n 0, 1) := by decide +kernel
theorem dX7_writeText_1 : decode cX7_writeText 1 = .ok (.iload_n 1, 1) := by decide +kernel
theorem dX7_writeText_2 : decode cX7_writeText 2 = .ok (.iload_n 1, 1) := by decide +kernel
theorem dX7_writeText_3 : decode cX7_writeText 3 = .ok (.iload_n 2, 1) := by decide +kernel
theorem dX7_writeText_4 : decode cX7_writeText 4 = .ok (.iload_n 3, 1) := by decide +kernel
theorem dX7_writeText_5 : decode cX7_writeText 5 = .ok (.iload 4, 2) := by decide +kernel
theorem dX7_writeText_7 : decode cX7_writeText 7 = .ok (.invokevirtual 124, 3) := by decide +kernel
theorem dX7_writeText_10 : decode cX7_writeText 10 = .ok (.ireturn, 1) := by decide +kernel
set_option maxRecDepth 20000 in
theorem ggX7_writeSigns_X7_part : GoodIn wsX7_writeSigns wsX7_part := goodIn_ca (goodIn_r _ [5, 6, 7, 8, 9, 10, 11, 4, 12, 13, 14, 15, 16, 17, 18, 19, 20, 21, 22, 23, 24, 25, 26, 27, 28, 29, 30, 31, 32, 33, 34, 35, 36, 37, 38, 39, 40, 41, 42, 43, 44, 45, 46, 47, 48, 49, 50, 51, 52, 53, 54, 55, 56, 57, 58, 59, 60] (by decide +kernel) (by decide +kernel)) (goodIn_sub (fun _ h => List.mem_cons_of_mem _ (List.mem_append_right _ h)) (by decide +kernel))
set_option maxRecDepth 20000 in
theorem gX7_writeSigns_X7_part : GoodIn wsX7_writeSigns (wsV RX7 124 RX7 yX7_part wsX7_part) := goodIn_app (goodIn_of _ (by decide +kernel)) ggX7_writeSigns_X7_part
theorem dX7_writeSigns_0 : decode cX7_writeSigns 0 = .ok (.aload_n 0, 1) := by decide +kernel
theorem dX7_writeSigns_1 : decode cX7_writeSigns 1 = .ok (.iload_n 1, 1) := by decide +kernel
theorem dX7_writeSigns_2 : decode cX7_writeSigns 2 = .ok (.iload_n 1, 1) := by decide +kernel
theorem dX7_writeSigns_3 : decode cX7_writeSigns 3 = .ok (.iload_n 2, 1) := by decide +kernel
theorem dX7_writeSigns_4 : decode cX7_writeSigns 4 = .ok (.iload_n 3, 1) := by decide +kernel
theorem dX7_writeSigns_5 : decode cX7_writeSigns 5 = .ok (.iload 4, 2) := by decide +kernel
theorem dX7_writeSigns_7 : decode cX7_writeSigns 7 = .ok (.invokevirtual 124, 3) := by decide +kernel
theorem dX7_writeSigns_10 : decode cX7_writeSigns 10 = .ok (.ireturn, 1) := by decide +kernel
set_option maxRecDepth 20000 in
theorem ggX7_append_X7_one : GoodIn wsX7_append wsX7_one := goodIn_ca (goodIn_r _ [5, 6, 7, 8, 9, 4, 10, 11, 12, 13, 14, 15, 16, 17, 18, 19, 20, 21, 22, 23, 24, 25, 26, 27, 28, 29, 30, 31, 32, 33, 34, 35, 36, 37, 38, 39, 40, 41, 42, 43, 44, 45] (by decide +kernel) (by decide +kernel)) (goodIn_sub (fun _ h => List.mem_cons_of_mem _ (List.mem_append_right _ h)) (by decide +kernel))
set_option maxRecDepth 20000 in
theorem gX7_append_X7_one : GoodIn wsX7_append (wsV RX7 120 RX7 yX7_one wsX7_one) := goodIn_app (goodIn_of _ (by decide +kernel)) ggX7_append_X7_one
theorem dX7_append_0 : decode cX7_append 0 = .ok (.aload_n 0, 1) := by decide +kernel
theorem dX7_append_1 : decode cX7_append 1 = .ok (.iload_n 1, 1) := by decide +kernel
theorem dX7_append_2 : decode cX7_append 2 = .ok (.iload_n 1, 1) := by decide +kernel
theorem dX7_append_3 : decode cX7_append 3 = .ok (.iload_n 2, 1) := by decide +kernel
theorem dX7_append_4 : decode cX7_append 4 = .ok (.iconst 2, 1) := by decide +kernel
theorem dX7_append_5 : decode cX7_append 5 = .ok (.invokevirtual 120, 3) := by decide +kernel
theorem dX7_append_8 : decode cX7_append 8 = .ok (.ireturn, 1) := by decide +kernel
set_option maxRecDepth 20000 in
theorem ggX7_size_X7_isOther : GoodIn wsX7_size wsX7_isOther := goodIn_r _ [6] (by decide +kernel) (by decide +kernel)
set_option maxRecDepth 20000 in
theorem gX7_size_X7_isOther : GoodIn wsX7_size (wsV RX7 107 RX7 yX7_isOther wsX7_isOther) := goodIn_app (goodIn_of _ (by decide +kernel)) ggX7_size_X7_isOther
set_option maxRecDepth 20000 in
theorem ggX7_size_X7_isWrong : GoodIn wsX7_size wsX7_isWrong := goodIn_r _ [10, 11, 12, 13, 14, 15, 16, 17, 18, 19, 20, 21, 22, 23, 24, 25, 26, 27, 28, 29, 30, 31, 32] (by decide +kernel) (by decide +kernel)
set_option maxRecDepth 20000 in
theorem gX7_size_X7_isWrong : GoodIn wsX7_size (wsV RX7 87 RX7 yX7_isWrong wsX7_isWrong) := goodIn_app (goodIn_of _ (by decide +kernel)) ggX7_size_X7_isWrong
theorem dX7_size_0 : decode cX7_size 0 = .ok (.aload_n 0, 1) := by decide +kernel
theorem dX7_size_1 : decode cX7_size 1 = .ok (.aload_n 0, 1) := by decide +kernel
theorem dX7_size_2 : decode cX7_size 2 = .ok (.iload_n 1, 1) := by decide +kernel
theorem dX7_size_3 : decode cX7_size 3 = .ok (.invokevirtual 107, 3) := by decide +kernel
theorem dX7_size_6 : decode cX7_size 6 = .ok (.ifCond .eq 7, 3) := by decide +kernel
theorem dX7_size_9 : decode cX7_size 9 = .ok (.iconst 0, 1) := by decide +kernel
theorem dX7_size_10 : decode cX7_size 10 = .ok (.goto 4, 3) := by decide +kernel
theorem dX7_size_13 : decode cX7_size 13 = .ok (.iconst 1, 1) := by decide +kernel
theorem dX7_size_14 : decode cX7_size 14 = .ok (.invokevirtual 87, 3) := by decide +kernel
theorem dX7_size_17 : decode cX7_size 17 = .ok (.ifCond .eq 7, 3) := by decide +kernel
theorem dX7_size_20 : decode cX7_size 20 = .ok (.iconst 0, 1) := by decide +kernel
theorem dX7_size_21 : decode cX7_size 21 = .ok (.goto 9, 3) := by decide +kernel
theorem dX7_size_24 : decode cX7_size 24 = .ok (.aload_n 0, 1) := by decide +kernel
theorem dX7_size_25 : decode cX7_size 25 = .ok (.getfield 31, 3) := by decide +kernel
theorem dX7_size_28 : decode cX7_size 28 = .ok (.iload_n 1, 1) := by decide +kernel
theorem dX7_size_29 : decode cX7_size 29 = .ok (.iaload, 1) := by decide +kernel
theorem dX7_size_30 : decode cX7_size 30 = .ok (.ireturn, 1) := by decide +kernel
set_option maxRecDepth 20000 in
theorem ggX7_take_X7_taken : GoodIn wsX7_take wsX7_taken := goodIn_ca (goodIn_r _ [5, 6, 7, 8, 9, 10, 11, 4, 12, 13, 14, 15, 16, 17, 18, 19, 20, 21, 22, 23, 24, 25, 26, 27, 28, 29, 30, 31, 32, 33, 34, 35, 36, 37, 38, 39, 40, 41, 42, 43, 44, 45, 46, 47, 48, 49, 50, 51, 52, 53, 54] (by decide +kernel) (by decide +kernel)) (goodIn_sub (fun _ h => List.mem_cons_of_mem _ (List.mem_append_right _ h)) (by decide +kernel))
set_option maxRecDepth 20000 in
theorem gX7_take_X7_taken : GoodIn wsX7_take (wsV RX7 128 RX7 yX7_taken wsX7_taken) := goodIn_app (goodIn_of _ (by decide +kernel)) ggX7_take_X7_taken
theorem dX7_take_0 : decode cX7_take 0 = .ok (.aload_n 0, 1) := by decide +kernel
theorem dX7_take_1 : decode cX7_take 1 = .ok (.iload_n 1, 1) := by decide +kernel
theorem dX7_take_2 : decode cX7_take 2 = .ok (.iload_n 1, 1) := by decide +kernel
theorem dX7_take_3 : decode cX7_take 3 = .ok (.iload_n 2, 1) := by decide +kernel
theorem dX7_take_4 : decode cX7_take 4 = .ok (.invokevirtual 128, 3) := by decide +kernel
theorem dX7_take_7 : decode cX7_take 7 = .ok (.ireturn, 1) := by decide +kernel
set_option maxRecDepth 20000 in
theorem ggX7_empty_X7_isOther : GoodIn wsX7_empty wsX7_isOther := goodIn_r _ [5] (by decide +kernel) (by decide +kernel)
set_option maxRecDepth 20000 in
theorem gX7_empty_X7_isOther : GoodIn wsX7_empty (wsV RX7 107 RX7 yX7_isOther wsX7_isOther) := goodIn_app (goodIn_of _ (by decide +kernel)) ggX7_empty_X7_isOther
set_option maxRecDepth 20000 in
theorem ggX7_empty_X7_isWrong : GoodIn wsX7_empty wsX7_isWrong := goodIn_r _ [9, 10, 16, 17, 18, 19, 20, 21, 22, 23, 24, 25, 26, 27, 28, 29, 30, 31, 32, 33, 34, 35, 36] (by decide +kernel) (by decide +kernel)
set_option maxRecDepth 20000 in
theorem gX7_empty_X7_isWrong : GoodIn wsX7_empty (wsV RX7 87 RX7 yX7_isWrong wsX7_isWrong) := goodIn_app (goodIn_of _ (by decide +kernel)) ggX7_empty_X7_isWrong
set_option maxRecDepth 20000 in
theorem ggX7_empty_X7_emptied : GoodIn wsX7_empty wsX7_emptied := goodIn_ca (goodIn_r _ [14, 15, 16, 17, 18, 19, 20, 21, 22, 23, 24, 25, 26, 27, 28, 29, 30, 31, 32, 33, 34, 35, 36] (by decide +kernel) (by decide +kernel)) (goodIn_sub (fun _ h => List.mem_cons_of_mem _ (List.mem_append_right _ h)) (by decide +kernel))
set_option maxRecDepth 20000 in
theorem gX7_empty_X7_emptied : GoodIn wsX7_empty (wsV RX7 117 RX7 yX7_emptied wsX7_emptied) := goodIn_app (goodIn_of _ (by decide +kernel)) ggX7_empty_X7_emptied
theorem dX7_empty_0 : decode cX7_empty 0 = .ok (.aload_n 0, 1) := by decide +kernel
theorem dX7_empty_1 : decode cX7_empty 1 = .ok (.aload_n 0, 1) := by decide +kernel
theorem dX7_empty_2 : decode cX7_empty 2 = .ok (.iload_n 1, 1) := by decide +kernel
theorem dX7_empty_3 : decode cX7_empty 3 = .ok (.invokevirtual 107, 3) := by decide +kernel
theorem dX7_empty_6 : decode cX7_empty 6 = .ok (.ifCond .eq 7, 3) := by decide +kernel
theorem dX7_empty_9 : decode cX7_empty 9 = .ok (.iconst 0, 1) := by decide +kernel
theorem dX7_empty_10 : decode cX7_empty 10 = .ok (.goto 4, 3) := by decide +kernel
theorem dX7_empty_13 : decode cX7_empty 13 = .ok (.iconst 1, 1) := by decide +kernel
theorem dX7_empty_14 : decode cX7_empty 14 = .ok (.invokevirtual 87, 3) := by decide +kernel
theorem dX7_empty_17 : decode cX7_empty 17 = .ok (.ifCond .eq 7, 3) := by decide +kernel
theorem dX7_empty_20 : decode cX7_empty 20 = .ok (.iconst 0, 1) := by decide +kernel
theorem dX7_empty_21 : decode cX7_empty 21 = .ok (.goto 10, 3) := by decide +kernel
theorem dX7_empty_24 : decode cX7_empty 24 = .ok (.aload_n 0, 1) := by decide +kernel
theorem dX7_empty_25 : decode cX7_empty 25 = .ok (.iconst 3, 1) := by decide +kernel
theorem dX7_empty_26 : decode cX7_empty 26 = .ok (.iload_n 1, 1) := by decide +kernel
theorem dX7_empty_27 : decode cX7_empty 27 = .ok (.iadd, 1) := by decide +kernel
theorem dX7_empty_28 : decode cX7_empty 28 = .ok (.invokevirtual 117, 3) := by decide +kernel
theorem dX7_empty_31 : decode cX7_empty 31 = .ok (.ireturn, 1) := by decide +kernel
set_option maxRecDepth 20000 in
theorem ggX7_arrayWrite_X7_one : GoodIn wsX7_arrayWrite wsX7_one := goodIn_ca (goodIn_r _ [5, 6, 7, 8, 9, 4, 10, 11, 12, 13, 14, 15, 16, 17, 18, 19, 20, 21, 22, 23, 24, 25, 26, 27, 28, 29, 30, 31, 32, 33, 34, 35, 36, 37, 38, 39, 40, 41, 42, 43, 44, 45] (by decide +kernel) (by decide +kernel)) (goodIn_sub (fun _ h => List.mem_cons_of_mem _ (List.mem_append_right _ h)) (by decide +kernel))
set_option maxRecDepth 20000 in
theorem gX7_arrayWrite_X7_one : GoodIn wsX7_arrayWrite (wsV RX7 120 RX7 yX7_one wsX7_one) := goodIn_app (goodIn_of _ (by decide +kernel)) ggX7_arrayWrite_X7_one
theorem dX7_arrayWrite_0 : decode cX7_arrayWrite 0 = .ok (.aload_n 0, 1) := by decide +kernel
theorem dX7_arrayWrite_1 : decode cX7_arrayWrite 1 = .ok (.iload_n 1, 1) := by decide +kernel
theorem dX7_arrayWrite_2 : decode cX7_arrayWrite 2 = .ok (.iconst 3, 1) := by decide +kernel
theorem dX7_arrayWrite_3 : decode cX7_arrayWrite 3 = .ok (.iload_n 1, 1) := by decide +kernel
theorem dX7_arrayWrite_4 : decode cX7_arrayWrite 4 = .ok (.iadd, 1) := by decide +kernel
theorem dX7_arrayWrite_5 : decode cX7_arrayWrite 5 = .ok (.iload_n 2, 1) := by decide +kernel
theorem dX7_arrayWrite_6 : decode cX7_arrayWrite 6 = .ok (.iconst 1, 1) := by decide +kernel
theorem dX7_arrayWrite_7 : decode cX7_arrayWrite 7 = .ok (.invokevirtual 120, 3) := by decide +kernel
theorem dX7_arrayWrite_10 : decode cX7_arrayWrite 10 = .ok (.ireturn, 1) := by decide +kernel
set_option maxRecDepth 20000 in
theorem ggX7_arrayText_X7_part : GoodIn wsX7_arrayText wsX7_part := goodIn_ca (goodIn_r _ [5, 6, 7, 8, 9, 10, 11, 4, 12, 13, 14, 15, 16, 17, 18, 19, 20, 21, 22, 23, 24, 25, 26, 27, 28, 29, 30, 31, 32, 33, 34, 35, 36, 37, 38, 39, 40, 41, 42, 43, 44, 45, 46, 47, 48, 49, 50, 51, 52, 53, 54, 55, 56, 57, 58, 59, 60] (by decide +kernel) (by decide +kernel)) (goodIn_sub (fun _ h => List.mem_cons_of_mem _ (List.mem_append_right _ h)) (by decide +kernel))
set_option maxRecDepth 20000 in
theorem gX7_arrayText_X7_part : GoodIn wsX7_arrayText (wsV RX7 124 RX7 yX7_part wsX7_part) := goodIn_app (goodIn_of _ (by decide +kernel)) ggX7_arrayText_X7_part
theorem dX7_arrayText_0 : decode cX7_arrayText 0 = .ok (.aload_n 0, 1) := by decide +kernel
theorem dX7_arrayText_1 : decode cX7_arrayText 1 = .ok (.iload_n 1, 1) := by decide +kernel
theorem dX7_arrayText_2 : decode cX7_arrayText 2 = .ok (.iconst 3, 1) := by decide +kernel
theorem dX7_arrayText_3 : decode cX7_arrayText 3 = .ok (.iload_n 1, 1) := by decide +kernel
theorem dX7_arrayText_4 : decode cX7_arrayText 4 = .ok (.iadd, 1) := by decide +kernel
theorem dX7_arrayText_5 : decode cX7_arrayText 5 = .ok (.iload_n 2, 1) := by decide +kernel
theorem dX7_arrayText_6 : decode cX7_arrayText 6 = .ok (.iload_n 3, 1) := by decide +kernel
theorem dX7_arrayText_7 : decode cX7_arrayText 7 = .ok (.iload 4, 2) := by decide +kernel
theorem dX7_arrayText_9 : decode cX7_arrayText 9 = .ok (.invokevirtual 124, 3) := by decide +kernel
theorem dX7_arrayText_12 : decode cX7_arrayText 12 = .ok (.ireturn, 1) := by decide +kernel
set_option maxRecDepth 20000 in
theorem ggX7_arraySigns_X7_part : GoodIn wsX7_arraySigns wsX7_part := goodIn_ca (goodIn_r _ [5, 6, 7, 8, 9, 10, 11, 4, 12, 13, 14, 15, 16, 17, 18, 19, 20, 21, 22, 23, 24, 25, 26, 27, 28, 29, 30, 31, 32, 33, 34, 35, 36, 37, 38, 39, 40, 41, 42, 43, 44, 45, 46, 47, 48, 49, 50, 51, 52, 53, 54, 55, 56, 57, 58, 59, 60] (by decide +kernel) (by decide +kernel)) (goodIn_sub (fun _ h => List.mem_cons_of_mem _ (List.mem_append_right _ h)) (by decide +kernel))
set_option maxRecDepth 20000 in
theorem gX7_arraySigns_X7_part : GoodIn wsX7_arraySigns (wsV RX7 124 RX7 yX7_part wsX7_part) := goodIn_app (goodIn_of _ (by decide +kernel)) ggX7_arraySigns_X7_part
theorem dX7_arraySigns_0 : decode cX7_arraySigns 0 = .ok (.aload_n 0, 1) := by decide +kernel
theorem dX7_arraySigns_1 : decode cX7_arraySigns 1 = .ok (.iload_n 1, 1) := by decide +kernel
theorem dX7_arraySigns_2 : decode cX7_arraySigns 2 = .ok (.iconst 3, 1) := by decide +kernel
theorem dX7_arraySigns_3 : decode cX7_arraySigns 3 = .ok (.iload_n 1, 1) := by decide +kernel
theorem dX7_arraySigns_4 : decode cX7_arraySigns 4 = .ok (.iadd, 1) := by decide +kernel
theorem dX7_arraySigns_5 : decode cX7_arraySigns 5 = .ok (.iload_n 2, 1) := by decide +kernel
theorem dX7_arraySigns_6 : decode cX7_arraySigns 6 = .ok (.iload_n 3, 1) := by decide +kernel
theorem dX7_arraySigns_7 : decode cX7_arraySigns 7 = .ok (.iload 4, 2) := by decide +kernel
theorem dX7_arraySigns_9 : decode cX7_arraySigns 9 = .ok (.invokevirtual 124, 3) := by decide +kernel
theorem dX7_arraySigns_12 : decode cX7_arraySigns 12 = .ok (.ireturn, 1) := by decide +kernel
set_option maxRecDepth 20000 in
theorem ggX7_arrayAppend_X7_one : GoodIn wsX7_arrayAppend wsX7_one := goodIn_ca (goodIn_r _ [5, 6, 7, 8, 9, 4, 10, 11, 12, 13, 14, 15, 16, 17, 18, 19, 20, 21, 22, 23, 24, 25, 26, 27, 28, 29, 30, 31, 32, 33, 34, 35, 36, 37, 38, 39, 40, 41, 42, 43, 44, 45] (by decide +kernel) (by decide +kernel)) (goodIn_sub (fun _ h => List.mem_cons_of_mem _ (List.mem_append_right _ h)) (by decide +kernel))
set_option maxRecDepth 20000 in
theorem gX7_arrayAppend_X7_one : GoodIn wsX7_arrayAppend (wsV RX7 120 RX7 yX7_one wsX7_one) := goodIn_app (goodIn_of _ (by decide +kernel)) ggX7_arrayAppend_X7_one
theorem dX7_arrayAppend_0 : decode cX7_arrayAppend 0 = .ok (.aload_n 0, 1) := by decide +kernel
theorem dX7_arrayAppend_1 : decode cX7_arrayAppend 1 = .ok (.iload_n 1, 1) := by decide +kernel
theorem dX7_arrayAppend_2 : decode cX7_arrayAppend 2 = .ok (.iconst 3, 1) := by decide +kernel
theorem dX7_arrayAppend_3 : decode cX7_arrayAppend 3 = .ok (.iload_n 1, 1) := by decide +kernel
theorem dX7_arrayAppend_4 : decode cX7_arrayAppend 4 = .ok (.iadd, 1) := by decide +kernel
theorem dX7_arrayAppend_5 : decode cX7_arrayAppend 5 = .ok (.iload_n 2, 1) := by decide +kernel
theorem dX7_arrayAppend_6 : decode cX7_arrayAppend 6 = .ok (.iconst 2, 1) := by decide +kernel
theorem dX7_arrayAppend_7 : decode cX7_arrayAppend 7 = .ok (.invokevirtual 120, 3) := by decide +kernel
theorem dX7_arrayAppend_10 : decode cX7_arrayAppend 10 = .ok (.ireturn, 1) := by decide +kernel
set_option maxRecDepth 20000 in
theorem ggX7_arraySize_X7_isOther : GoodIn wsX7_arraySize wsX7_isOther := goodIn_r _ [6] (by decide +kernel) (by decide +kernel)
set_option maxRecDepth 20000 in
theorem gX7_arraySize_X7_isOther : GoodIn wsX7_arraySize (wsV RX7 107 RX7 yX7_isOther wsX7_isOther) := goodIn_app (goodIn_of _ (by decide +kernel)) ggX7_arraySize_X7_isOther
set_option maxRecDepth 20000 in
theorem ggX7_arraySize_X7_isWrong : GoodIn wsX7_arraySize wsX7_isWrong := goodIn_r _ [10, 11, 12, 13, 14, 15, 16, 17, 18, 19, 20, 21, 22, 23, 24, 25, 26, 27, 28, 29, 30, 31, 32] (by decide +kernel) (by decide +kernel)
set_option maxRecDepth 20000 in
theorem gX7_arraySize_X7_isWrong : GoodIn wsX7_arraySize (wsV RX7 87 RX7 yX7_isWrong wsX7_isWrong) := goodIn_app (goodIn_of _ (by decide +kernel)) ggX7_arraySize_X7_isWrong
theorem dX7_arraySize_0 : decode cX7_arraySize 0 = .ok (.aload_n 0, 1) := by decide +kernel
theorem dX7_arraySize_1 : decode cX7_arraySize 1 = .ok (.aload_n 0, 1) := by decide +kernel
theorem dX7_arraySize_2 : decode cX7_arraySize 2 = .ok (.iload_n 1, 1) := by decide +kernel
theorem dX7_arraySize_3 : decode cX7_arraySize 3 = .ok (.invokevirtual 107, 3) := by decide +kernel
theorem dX7_arraySize_6 : decode cX7_arraySize 6 = .ok (.ifCond .eq 7, 3) := by decide +kernel
theorem dX7_arraySize_9 : decode cX7_arraySize 9 = .ok (.iconst 0, 1) := by decide +kernel
theorem dX7_arraySize_10 : decode cX7_arraySize 10 = .ok (.goto 4, 3) := by decide +kernel
theorem dX7_arraySize_13 : decode cX7_arraySize 13 = .ok (.iconst 1, 1) := by decide +kernel
theorem dX7_arraySize_14 : decode cX7_arraySize 14 = .ok (.invokevirtual 87, 3) := by decide +kernel
theorem dX7_arraySize_17 : decode cX7_arraySize 17 = .ok (.ifCond .eq 7, 3) := by decide +kernel
theorem dX7_arraySize_20 : decode cX7_arraySize 20 = .ok (.iconst 0, 1) := by decide +kernel
theorem dX7_arraySize_21 : decode cX7_arraySize 21 = .ok (.goto 11, 3) := by decide +kernel
theorem dX7_arraySize_24 : decode cX7_arraySize 24 = .ok (.aload_n 0, 1) := by decide +kernel
theorem dX7_arraySize_25 : decode cX7_arraySize 25 = .ok (.getfield 31, 3) := by decide +kernel
theorem dX7_arraySize_28 : decode cX7_arraySize 28 = .ok (.iconst 3, 1) := by decide +kernel
theorem dX7_arraySize_29 : decode cX7_arraySize 29 = .ok (.iload_n 1, 1) := by decide +kernel
theorem dX7_arraySize_30 : decode cX7_arraySize 30 = .ok (.iadd, 1) := by decide +kernel
theorem dX7_arraySize_31 : decode cX7_arraySize 31 = .ok (.iaload, 1) := by decide +kernel
theorem dX7_arraySize_32 : decode cX7_arraySize 32 = .ok (.ireturn, 1) := by decide +kernel
set_option maxRecDepth 20000 in
theorem ggX7_arrayTake_X7_taken : GoodIn wsX7_arrayTake wsX7_taken := goodIn_ca (goodIn_r _ [5, 6, 7, 8, 9, 10, 11, 4, 12, 13, 14, 15, 16, 17, 18, 19, 20, 21, 22, 23, 24, 25, 26, 27, 28, 29, 30, 31, 32, 33, 34, 35, 36, 37, 38, 39, 40, 41, 42, 43, 44, 45, 46, 47, 48, 49, 50, 51, 52, 53, 54] (by decide +kernel) (by decide +kernel)) (goodIn_sub (fun _ h => List.mem_cons_of_mem _ (List.mem_append_right _ h)) (by decide +kernel))
set_option maxRecDepth 20000 in
theorem gX7_arrayTake_X7_taken : GoodIn wsX7_arrayTake (wsV RX7 128 RX7 yX7_taken wsX7_taken) := goodIn_app (goodIn_of _ (by decide +kernel)) ggX7_arrayTake_X7_taken
theorem dX7_arrayTake_0 : decode cX7_arrayTake 0 = .ok (.aload_n 0, 1) := by decide +kernel
theorem dX7_arrayTake_1 : decode cX7_arrayTake 1 = .ok (.iload_n 1, 1) := by decide +kernel
theorem dX7_arrayTake_2 : decode cX7_arrayTake 2 = .ok (.iconst 3, 1) := by decide +kernel
theorem dX7_arrayTake_3 : decode cX7_arrayTake 3 = .ok (.iload_n 1, 1) := by decide +kernel
theorem dX7_arrayTake_4 : decode cX7_arrayTake 4 = .ok (.iadd, 1) := by decide +kernel
theorem dX7_arrayTake_5 : decode cX7_arrayTake 5 = .ok (.iload_n 2, 1) := by decide +kernel
theorem dX7_arrayTake_6 : decode cX7_arrayTake 6 = .ok (.invokevirtual 128, 3) := by decide +kernel
theorem dX7_arrayTake_9 : decode cX7_arrayTake 9 = .ok (.ireturn, 1) := by decide +kernel
set_option maxRecDepth 20000 in
theorem ggX7_poured_X7_adds : GoodIn wsX7_poured wsX7_adds := goodIn_ca (goodIn_r _ [7, 2, 1, 8, 9, 10, 11, 12, 13, 14, 15, 16, 17, 18, 19, 20, 21, 22, 23, 24, 25, 26, 27, 28] (by decide +kernel) (by decide +kernel)) (goodIn_sub (fun _ h => List.mem_cons_of_mem _ (List.mem_append_right _ h)) (by decide +kernel))
set_option maxRecDepth 20000 in
theorem gX7_poured_X7_adds : GoodIn wsX7_poured (wsV RX7 114 RX7 yX7_adds wsX7_adds) := goodIn_app (goodIn_of _ (by decide +kernel)) ggX7_poured_X7_adds
theorem dX7_poured_0 : decode cX7_poured 0 = .ok (.aload_n 0, 1) := by decide +kernel
theorem dX7_poured_1 : decode cX7_poured 1 = .ok (.getfield 31, 3) := by decide +kernel
theorem dX7_poured_4 : decode cX7_poured 4 = .ok (.iload_n 1, 1) := by decide +kernel
theorem dX7_poured_5 : decode cX7_poured 5 = .ok (.iaload, 1) := by decide +kernel
theorem dX7_poured_6 : decode cX7_poured 6 = .ok (.istore_n 3, 1) := by decide +kernel
theorem dX7_poured_7 : decode cX7_poured 7 = .ok (.iconst 0, 1) := by decide +kernel
theorem dX7_poured_8 : decode cX7_poured 8 = .ok (.istore 4, 2) := by decide +kernel
theorem dX7_poured_10 : decode cX7_poured 10 = .ok (.iload 4, 2) := by decide +kernel
theorem dX7_poured_12 : decode cX7_poured 12 = .ok (.iload_n 3, 1) := by decide +kernel
theorem dX7_poured_13 : decode cX7_poured 13 = .ok (.if_icmp .ge 27, 3) := by decide +kernel
theorem dX7_poured_16 : decode cX7_poured 16 = .ok (.aload_n 0, 1) := by decide +kernel
theorem dX7_poured_17 : decode cX7_poured 17 = .ok (.iload_n 2, 1) := by decide +kernel
theorem dX7_poured_18 : decode cX7_poured 18 = .ok (.aload_n 0, 1) := by decide +kernel
theorem dX7_poured_19 : decode cX7_poured 19 = .ok (.getfield 28, 3) := by decide +kernel
theorem dX7_poured_22 : decode cX7_poured 22 = .ok (.sipush 256, 3) := by decide +kernel
theorem dX7_poured_25 : decode cX7_poured 25 = .ok (.iload_n 1, 1) := by decide +kernel
theorem dX7_poured_26 : decode cX7_poured 26 = .ok (.imul, 1) := by decide +kernel
theorem dX7_poured_27 : decode cX7_poured 27 = .ok (.iload 4, 2) := by decide +kernel
theorem dX7_poured_29 : decode cX7_poured 29 = .ok (.iadd, 1) := by decide +kernel
theorem dX7_poured_30 : decode cX7_poured 30 = .ok (.iaload, 1) := by decide +kernel
theorem dX7_poured_31 : decode cX7_poured 31 = .ok (.invokevirtual 114, 3) := by decide +kernel
theorem dX7_poured_34 : decode cX7_poured 34 = .ok (.iinc 4 1, 3) := by decide +kernel
theorem dX7_poured_37 : decode cX7_poured 37 = .ok (.goto (-27), 3) := by decide +kernel
theorem dX7_poured_40 : decode cX7_poured 40 = .ok (.aload_n 0, 1) := by decide +kernel
theorem dX7_poured_41 : decode cX7_poured 41 = .ok (.getfield 31, 3) := by decide +kernel
theorem dX7_poured_44 : decode cX7_poured 44 = .ok (.iload_n 2, 1) := by decide +kernel
theorem dX7_poured_45 : decode cX7_poured 45 = .ok (.iaload, 1) := by decide +kernel
theorem dX7_poured_46 : decode cX7_poured 46 = .ok (.ireturn, 1) := by decide +kernel
set_option maxRecDepth 20000 in
theorem ggX7_pour_X7_isOther : GoodIn wsX7_pour wsX7_isOther := goodIn_r _ [6] (by decide +kernel) (by decide +kernel)
set_option maxRecDepth 20000 in
theorem gX7_pour_X7_isOther : GoodIn wsX7_pour (wsV RX7 107 RX7 yX7_isOther wsX7_isOther) := goodIn_app (goodIn_of _ (by decide +kernel)) ggX7_pour_X7_isOther
set_option maxRecDepth 20000 in
theorem ggX7_pour_X7_isFull : GoodIn wsX7_pour wsX7_isFull := goodIn_ca (goodIn_r _ [10, 1, 25, 26, 27, 28, 29, 30, 31, 32, 33, 34, 35, 36, 37, 38, 39, 40, 41, 42, 43, 44, 45] (by decide +kernel) (by decide +kernel)) (goodIn_sub (fun _ h => List.mem_cons_of_mem _ (List.mem_append_right _ h)) (by decide +kernel))
set_option maxRecDepth 20000 in
theorem gX7_pour_X7_isFull : GoodIn wsX7_pour (wsV RX7 110 RX7 yX7_isFull wsX7_isFull) := goodIn_app (goodIn_of _ (by decide +kernel)) ggX7_pour_X7_isFull
set_option maxRecDepth 20000 in
theorem ggX7_pour_X7_isWrong : GoodIn wsX7_pour wsX7_isWrong := goodIn_r _ [14, 15, 25, 26, 27, 28, 29, 30, 31, 32, 33, 34, 35, 36, 37, 38, 39, 40, 41, 42, 43, 44, 45] (by decide +kernel) (by decide +kernel)
set_option maxRecDepth 20000 in
theorem gX7_pour_X7_isWrong : GoodIn wsX7_pour (wsV RX7 87 RX7 yX7_isWrong wsX7_isWrong) := goodIn_app (goodIn_of _ (by decide +kernel)) ggX7_pour_X7_isWrong
set_option maxRecDepth 20000 in
theorem ggX7_pour_X7_poured : GoodIn wsX7_pour wsX7_poured := goodIn_ca (goodIn_r _ [19, 1, 20, 21, 22, 23, 5, 24, 25, 26, 27, 28, 29, 30, 31, 32, 33, 34, 35, 36, 37, 38, 39, 40, 41, 42, 43, 44, 45] (by decide +kernel) (by decide +kernel)) (goodIn_sub (fun _ h => List.mem_cons_of_mem _ (List.mem_append_right _ h)) (by decide +kernel))
set_option maxRecDepth 20000 in
theorem gX7_pour_X7_poured : GoodIn wsX7_pour (wsV RX7 132 RX7 yX7_poured wsX7_poured) := goodIn_app (goodIn_of _ (by decide +kernel)) ggX7_pour_X7_poured
theorem dX7_pour_0 : decode cX7_pour 0 = .ok (.aload_n 0, 1) := by decide +kernel
theorem dX7_pour_1 : decode cX7_pour 1 = .ok (.aload_n 0, 1) := by decide +kernel
theorem dX7_pour_2 : decode cX7_pour 2 = .ok (.iload_n 1, 1) := by decide +kernel
theorem dX7_pour_3 : decode cX7_pour 3 = .ok (.invokevirtual 107, 3) := by decide +kernel
theorem dX7_pour_6 : decode cX7_pour 6 = .ok (.ifCond .eq 11, 3) := by decide +kernel
theorem dX7_pour_9 : decode cX7_pour 9 = .ok (.aload_n 0, 1) := by decide +kernel
theorem dX7_pour_10 : decode cX7_pour 10 = .ok (.iload_n 2, 1) := by decide +kernel
theorem dX7_pour_11 : decode cX7_pour 11 = .ok (.invokevirtual 107, 3) := by decide +kernel
theorem dX7_pour_14 : decode cX7_pour 14 = .ok (.ifCond .ne 7, 3) := by decide +kernel
theorem dX7_pour_17 : decode cX7_pour 17 = .ok (.iconst 1, 1) := by decide +kernel
theorem dX7_pour_18 : decode cX7_pour 18 = .ok (.goto 24, 3) := by decide +kernel
theorem dX7_pour_21 : decode cX7_pour 21 = .ok (.aload_n 0, 1) := by decide +kernel
theorem dX7_pour_22 : decode cX7_pour 22 = .ok (.iload_n 2, 1) := by decide +kernel
theorem dX7_pour_23 : decode cX7_pour 23 = .ok (.aload_n 0, 1) := by decide +kernel
theorem dX7_pour_24 : decode cX7_pour 24 = .ok (.getfield 31, 3) := by decide +kernel
theorem dX7_pour_27 : decode cX7_pour 27 = .ok (.iconst 3, 1) := by decide +kernel
theorem dX7_pour_28 : decode cX7_pour 28 = .ok (.iload_n 1, 1) := by decide +kernel
theorem dX7_pour_29 : decode cX7_pour 29 = .ok (.iadd, 1) := by decide +kernel
theorem dX7_pour_30 : decode cX7_pour 30 = .ok (.iaload, 1) := by decide +kernel
theorem dX7_pour_31 : decode cX7_pour 31 = .ok (.invokevirtual 110, 3) := by decide +kernel
theorem dX7_pour_34 : decode cX7_pour 34 = .ok (.ifCond .eq 7, 3) := by decide +kernel
theorem dX7_pour_37 : decode cX7_pour 37 = .ok (.iconst 2, 1) := by decide +kernel
theorem dX7_pour_38 : decode cX7_pour 38 = .ok (.goto 4, 3) := by decide +kernel
theorem dX7_pour_41 : decode cX7_pour 41 = .ok (.iconst 0, 1) := by decide +kernel
theorem dX7_pour_42 : decode cX7_pour 42 = .ok (.invokevirtual 87, 3) := by decide +kernel
theorem dX7_pour_45 : decode cX7_pour 45 = .ok (.ifCond .eq 5, 3) := by decide +kernel
theorem dX7_pour_48 : decode cX7_pour 48 = .ok (.iconst 0, 1) := by decide +kernel
theorem dX7_pour_49 : decode cX7_pour 49 = .ok (.ireturn, 1) := by decide +kernel
theorem dX7_pour_50 : decode cX7_pour 50 = .ok (.aload_n 0, 1) := by decide +kernel
theorem dX7_pour_51 : decode cX7_pour 51 = .ok (.iconst 3, 1) := by decide +kernel
theorem dX7_pour_52 : decode cX7_pour 52 = .ok (.iload_n 1, 1) := by decide +kernel
theorem dX7_pour_53 : decode cX7_pour 53 = .ok (.iadd, 1) := by decide +kernel
theorem dX7_pour_54 : decode cX7_pour 54 = .ok (.iload_n 2, 1) := by decide +kernel
theorem dX7_pour_55 : decode cX7_pour 55 = .ok (.invokevirtual 132, 3) := by decide +kernel
theorem dX7_pour_58 : decode cX7_pour 58 = .ok (.ireturn, 1) := by decide +kernel
set_option maxRecDepth 20000 in
theorem ggX7_pourOver_X7_isOther : GoodIn wsX7_pourOver wsX7_isOther := goodIn_r _ [6] (by decide +kernel) (by decide +kernel)
set_option maxRecDepth 20000 in
theorem gX7_pourOver_X7_isOther : GoodIn wsX7_pourOver (wsV RX7 107 RX7 yX7_isOther wsX7_isOther) := goodIn_app (goodIn_of _ (by decide +kernel)) ggX7_pourOver_X7_isOther
set_option maxRecDepth 20000 in
theorem ggX7_pourOver_X7_isFull : GoodIn wsX7_pourOver wsX7_isFull := goodIn_ca (goodIn_r _ [10, 1, 25, 26, 27, 28, 29, 30, 31, 32, 33, 34, 35, 36, 37, 38, 39, 40, 41, 42, 43, 44, 45] (by decide +kernel) (by decide +kernel)) (goodIn_sub (fun _ h => List.mem_cons_of_mem _ (List.mem_append_right _ h)) (by decide +kernel))
set_option maxRecDepth 20000 in
theorem gX7_pourOver_X7_isFull : GoodIn wsX7_pourOver (wsV RX7 110 RX7 yX7_isFull wsX7_isFull) := goodIn_app (goodIn_of _ (by decide +kernel)) ggX7_pourOver_X7_isFull
set_option maxRecDepth 20000 in
theorem ggX7_pourOver_X7_isWrong : GoodIn wsX7_pourOver wsX7_isWrong := goodIn_r _ [14, 15, 25, 26, 27, 28, 29, 30, 31, 32, 33, 34, 35, 36, 37, 38, 39, 40, 41, 42, 43, 44, 45] (by decide +kernel) (by decide +kernel)
set_option maxRecDepth 20000 in
theorem gX7_pourOver_X7_isWrong : GoodIn wsX7_pourOver (wsV RX7 87 RX7 yX7_isWrong wsX7_isWrong) := goodIn_app (goodIn_of _ (by decide +kernel)) ggX7_pourOver_X7_isWrong
set_option maxRecDepth 20000 in
theorem ggX7_pourOver_X7_poured : GoodIn wsX7_pourOver wsX7_poured := goodIn_ca (goodIn_r _ [19, 1, 20, 21, 22, 23, 5, 24, 25, 26, 27, 28, 29, 30, 31, 32, 33, 34, 35, 36, 37, 38, 39, 40, 41, 42, 43, 44, 45] (by decide +kernel) (by decide +kernel)) (goodIn_sub (fun _ h => List.mem_cons_of_mem _ (List.mem_append_right _ h)) (by decide +kernel))
set_option maxRecDepth 20000 in
theorem gX7_pourOver_X7_poured : GoodIn wsX7_pourOver (wsV RX7 132 RX7 yX7_poured wsX7_poured) := goodIn_app (goodIn_of _ (by decide +kernel)) ggX7_pourOver_X7_poured
theorem dX7_pourOver_0 : decode cX7_pourOver 0 = .ok (.aload_n 0, 1) := by decide +kernel
theorem dX7_pourOver_1 : decode cX7_pourOver 1 = .ok (.aload_n 0, 1) := by decide +kernel
theorem dX7_pourOver_2 : decode cX7_pourOver 2 = .ok (.iload_n 1, 1) := by decide +kernel
theorem dX7_pourOver_3 : decode cX7_pourOver 3 = .ok (.invokevirtual 107, 3) := by decide +kernel
theorem dX7_pourOver_6 : decode cX7_pourOver 6 = .ok (.ifCond .eq 11, 3) := by decide +kernel
theorem dX7_pourOver_9 : decode cX7_pourOver 9 = .ok (.aload_n 0, 1) := by decide +kernel
theorem dX7_pourOver_10 : decode cX7_pourOver 10 = .ok (.iload_n 2, 1) := by decide +kernel
theorem dX7_pourOver_11 : decode cX7_pourOver 11 = .ok (.invokevirtual 107, 3) := by decide +kernel
theorem dX7_pourOver_14 : decode cX7_pourOver 14 = .ok (.ifCond .ne 7, 3) := by decide +kernel
theorem dX7_pourOver_17 : decode cX7_pourOver 17 = .ok (.iconst 1, 1) := by decide +kernel
theorem dX7_pourOver_18 : decode cX7_pourOver 18 = .ok (.goto 35, 3) := by decide +kernel
theorem dX7_pourOver_21 : decode cX7_pourOver 21 = .ok (.iload_n 1, 1) := by decide +kernel
theorem dX7_pourOver_22 : decode cX7_pourOver 22 = .ok (.iload_n 2, 1) := by decide +kernel
theorem dX7_pourOver_23 : decode cX7_pourOver 23 = .ok (.if_icmp .ne 7, 3) := by decide +kernel
theorem dX7_pourOver_26 : decode cX7_pourOver 26 = .ok (.iconst 2, 1) := by decide +kernel
theorem dX7_pourOver_27 : decode cX7_pourOver 27 = .ok (.goto 26, 3) := by decide +kernel
theorem dX7_pourOver_30 : decode cX7_pourOver 30 = .ok (.aload_n 0, 1) := by decide +kernel
theorem dX7_pourOver_31 : decode cX7_pourOver 31 = .ok (.iconst 3, 1) := by decide +kernel
theorem dX7_pourOver_32 : decode cX7_pourOver 32 = .ok (.iload_n 2, 1) := by decide +kernel
theorem dX7_pourOver_33 : decode cX7_pourOver 33 = .ok (.iadd, 1) := by decide +kernel
theorem dX7_pourOver_34 : decode cX7_pourOver 34 = .ok (.aload_n 0, 1) := by decide +kernel
theorem dX7_pourOver_35 : decode cX7_pourOver 35 = .ok (.getfield 31, 3) := by decide +kernel
theorem dX7_pourOver_38 : decode cX7_pourOver 38 = .ok (.iconst 3, 1) := by decide +kernel
theorem dX7_pourOver_39 : decode cX7_pourOver 39 = .ok (.iload_n 1, 1) := by decide +kernel
theorem dX7_pourOver_40 : decode cX7_pourOver 40 = .ok (.iadd, 1) := by decide +kernel
theorem dX7_pourOver_41 : decode cX7_pourOver 41 = .ok (.iaload, 1) := by decide +kernel
theorem dX7_pourOver_42 : decode cX7_pourOver 42 = .ok (.invokevirtual 110, 3) := by decide +kernel
theorem dX7_pourOver_45 : decode cX7_pourOver 45 = .ok (.ifCond .eq 7, 3) := by decide +kernel
theorem dX7_pourOver_48 : decode cX7_pourOver 48 = .ok (.iconst 3, 1) := by decide +kernel
theorem dX7_pourOver_49 : decode cX7_pourOver 49 = .ok (.goto 4, 3) := by decide +kernel
theorem dX7_pourOver_52 : decode cX7_pourOver 52 = .ok (.iconst 0, 1) := by decide +kernel
theorem dX7_pourOver_53 : decode cX7_pourOver 53 = .ok (.invokevirtual 87, 3) := by decide +kernel
theorem dX7_pourOver_56 : decode cX7_pourOver 56 = .ok (.ifCond .eq 5, 3) := by decide +kernel
theorem dX7_pourOver_59 : decode cX7_pourOver 59 = .ok (.iconst 0, 1) := by decide +kernel
theorem dX7_pourOver_60 : decode cX7_pourOver 60 = .ok (.ireturn, 1) := by decide +kernel
theorem dX7_pourOver_61 : decode cX7_pourOver 61 = .ok (.aload_n 0, 1) := by decide +kernel
theorem dX7_pourOver_62 : decode cX7_pourOver 62 = .ok (.iconst 3, 1) := by decide +kernel
theorem dX7_pourOver_63 : decode cX7_pourOver 63 = .ok (.iload_n 1, 1) := by decide +kernel
theorem dX7_pourOver_64 : decode cX7_pourOver 64 = .ok (.iadd, 1) := by decide +kernel
theorem dX7_pourOver_65 : decode cX7_pourOver 65 = .ok (.iconst 3, 1) := by decide +kernel
theorem dX7_pourOver_66 : decode cX7_pourOver 66 = .ok (.iload_n 2, 1) := by decide +kernel
theorem dX7_pourOver_67 : decode cX7_pourOver 67 = .ok (.iadd, 1) := by decide +kernel
theorem dX7_pourOver_68 : decode cX7_pourOver 68 = .ok (.invokevirtual 132, 3) := by decide +kernel
theorem dX7_pourOver_71 : decode cX7_pourOver 71 = .ok (.ireturn, 1) := by decide +kernel
set_option maxRecDepth 20000 in
theorem ggX7_areLike_X7_isOther : GoodIn wsX7_areLike wsX7_isOther := goodIn_r _ [7] (by decide +kernel) (by decide +kernel)
set_option maxRecDepth 20000 in
theorem gX7_areLike_X7_isOther : GoodIn wsX7_areLike (wsV RX7 107 RX7 yX7_isOther wsX7_isOther) := goodIn_app (goodIn_of _ (by decide +kernel)) ggX7_areLike_X7_isOther
set_option maxRecDepth 20000 in
theorem ggX7_areLike_X7_isWrong : GoodIn wsX7_areLike wsX7_isWrong := goodIn_r _ [11, 12, 13, 14, 15, 16, 17, 18, 19, 20, 21, 22, 23, 24, 25, 26, 27, 28, 29, 30, 31, 32, 33] (by decide +kernel) (by decide +kernel)
set_option maxRecDepth 20000 in
theorem gX7_areLike_X7_isWrong : GoodIn wsX7_areLike (wsV RX7 87 RX7 yX7_isWrong wsX7_isWrong) := goodIn_app (goodIn_of _ (by decide +kernel)) ggX7_areLike_X7_isWrong
theorem dX7_areLike_0 : decode cX7_areLike 0 = .ok (.aload_n 0, 1) := by decide +kernel
theorem dX7_areLike_1 : decode cX7_areLike 1 = .ok (.aload_n 0, 1) := by decide +kernel
theorem dX7_areLike_2 : decode cX7_areLike 2 = .ok (.iload_n 1, 1) := by decide +kernel
theorem dX7_areLike_3 : decode cX7_areLike 3 = .ok (.invokevirtual 107, 3) := by decide +kernel
theorem dX7_areLike_6 : decode cX7_areLike 6 = .ok (.ifCond .eq 15, 3) := by decide +kernel
theorem dX7_areLike_9 : decode cX7_areLike 9 = .ok (.aload_n 0, 1) := by decide +kernel
theorem dX7_areLike_10 : decode cX7_areLike 10 = .ok (.iload_n 2, 1) := by decide +kernel
theorem dX7_areLike_11 : decode cX7_areLike 11 = .ok (.invokevirtual 107, 3) := by decide +kernel
theorem dX7_areLike_14 : decode cX7_areLike 14 = .ok (.ifCond .eq 7, 3) := by decide +kernel
theorem dX7_areLike_17 : decode cX7_areLike 17 = .ok (.iconst 0, 1) := by decide +kernel
theorem dX7_areLike_18 : decode cX7_areLike 18 = .ok (.goto 4, 3) := by decide +kernel
theorem dX7_areLike_21 : decode cX7_areLike 21 = .ok (.iconst 1, 1) := by decide +kernel
theorem dX7_areLike_22 : decode cX7_areLike 22 = .ok (.invokevirtual 87, 3) := by decide +kernel
theorem dX7_areLike_25 : decode cX7_areLike 25 = .ok (.ifCond .eq 5, 3) := by decide +kernel
theorem dX7_areLike_28 : decode cX7_areLike 28 = .ok (.iconst 0, 1) := by decide +kernel
theorem dX7_areLike_29 : decode cX7_areLike 29 = .ok (.ireturn, 1) := by decide +kernel
theorem dX7_areLike_30 : decode cX7_areLike 30 = .ok (.aload_n 0, 1) := by decide +kernel
theorem dX7_areLike_31 : decode cX7_areLike 31 = .ok (.getfield 31, 3) := by decide +kernel
theorem dX7_areLike_34 : decode cX7_areLike 34 = .ok (.iload_n 1, 1) := by decide +kernel
theorem dX7_areLike_35 : decode cX7_areLike 35 = .ok (.iaload, 1) := by decide +kernel
theorem dX7_areLike_36 : decode cX7_areLike 36 = .ok (.aload_n 0, 1) := by decide +kernel
theorem dX7_areLike_37 : decode cX7_areLike 37 = .ok (.getfield 31, 3) := by decide +kernel
theorem dX7_areLike_40 : decode cX7_areLike 40 = .ok (.iconst 3, 1) := by decide +kernel
theorem dX7_areLike_41 : decode cX7_areLike 41 = .ok (.iload_n 2, 1) := by decide +kernel
theorem dX7_areLike_42 : decode cX7_areLike 42 = .ok (.iadd, 1) := by decide +kernel
theorem dX7_areLike_43 : decode cX7_areLike 43 = .ok (.iaload, 1) := by decide +kernel
theorem dX7_areLike_44 : decode cX7_areLike 44 = .ok (.if_icmp .ne 7, 3) := by decide +kernel
theorem dX7_areLike_47 : decode cX7_areLike 47 = .ok (.iconst 1, 1) := by decide +kernel
theorem dX7_areLike_48 : decode cX7_areLike 48 = .ok (.goto 4, 3) := by decide +kernel
theorem dX7_areLike_51 : decode cX7_areLike 51 = .ok (.iconst 0, 1) := by decide +kernel
theorem dX7_areLike_52 : decode cX7_areLike 52 = .ok (.istore_n 3, 1) := by decide +kernel
theorem dX7_areLike_53 : decode cX7_areLike 53 = .ok (.iconst 0, 1) := by decide +kernel
theorem dX7_areLike_54 : decode cX7_areLike 54 = .ok (.istore 4, 2) := by decide +kernel
theorem dX7_areLike_56 : decode cX7_areLike 56 = .ok (.iload_n 3, 1) := by decide +kernel
theorem dX7_areLike_57 : decode cX7_areLike 57 = .ok (.ifCond .eq 59, 3) := by decide +kernel
theorem dX7_areLike_60 : decode cX7_areLike 60 = .ok (.iload 4, 2) := by decide +kernel
theorem dX7_areLike_62 : decode cX7_areLike 62 = .ok (.aload_n 0, 1) := by decide +kernel
theorem dX7_areLike_63 : decode cX7_areLike 63 = .ok (.getfield 31, 3) := by decide +kernel
theorem dX7_areLike_66 : decode cX7_areLike 66 = .ok (.iload_n 1, 1) := by decide +kernel
theorem dX7_areLike_67 : decode cX7_areLike 67 = .ok (.iaload, 1) := by decide +kernel
theorem dX7_areLike_68 : decode cX7_areLike 68 = .ok (.if_icmp .ge 48, 3) := by decide +kernel
theorem dX7_areLike_71 : decode cX7_areLike 71 = .ok (.aload_n 0, 1) := by decide +kernel
theorem dX7_areLike_72 : decode cX7_areLike 72 = .ok (.getfield 28, 3) := by decide +kernel
theorem dX7_areLike_75 : decode cX7_areLike 75 = .ok (.sipush 256, 3) := by decide +kernel
theorem dX7_areLike_78 : decode cX7_areLike 78 = .ok (.iload_n 1, 1) := by decide +kernel
theorem dX7_areLike_79 : decode cX7_areLike 79 = .ok (.imul, 1) := by decide +kernel
theorem dX7_areLike_80 : decode cX7_areLike 80 = .ok (.iload 4, 2) := by decide +kernel
theorem dX7_areLike_82 : decode cX7_areLike 82 = .ok (.iadd, 1) := by decide +kernel
theorem dX7_areLike_83 : decode cX7_areLike 83 = .ok (.iaload, 1) := by decide +kernel
theorem dX7_areLike_84 : decode cX7_areLike 84 = .ok (.aload_n 0, 1) := by decide +kernel
theorem dX7_areLike_85 : decode cX7_areLike 85 = .ok (.getfield 28, 3) := by decide +kernel
theorem dX7_areLike_88 : decode cX7_areLike 88 = .ok (.sipush 768, 3) := by decide +kernel
theorem dX7_areLike_91 : decode cX7_areLike 91 = .ok (.sipush 256, 3) := by decide +kernel
theorem dX7_areLike_94 : decode cX7_areLike 94 = .ok (.iload_n 2, 1) := by decide +kernel
theorem dX7_areLike_95 : decode cX7_areLike 95 = .ok (.imul, 1) := by decide +kernel
theorem dX7_areLike_96 : decode cX7_areLike 96 = .ok (.iadd, 1) := by decide +kernel
theorem dX7_areLike_97 : decode cX7_areLike 97 = .ok (.iload 4, 2) := by decide +kernel
theorem dX7_areLike_99 : decode cX7_areLike 99 = .ok (.iadd, 1) := by decide +kernel
theorem dX7_areLike_100 : decode cX7_areLike 100 = .ok (.iaload, 1) := by decide +kernel
theorem dX7_areLike_101 : decode cX7_areLike 101 = .ok (.if_icmp .ne 7, 3) := by decide +kernel
theorem dX7_areLike_104 : decode cX7_areLike 104 = .ok (.iconst 1, 1) := by decide +kernel
theorem dX7_areLike_105 : decode cX7_areLike 105 = .ok (.goto 4, 3) := by decide +kernel
theorem dX7_areLike_108 : decode cX7_areLike 108 = .ok (.iconst 0, 1) := by decide +kernel
theorem dX7_areLike_109 : decode cX7_areLike 109 = .ok (.istore_n 3, 1) := by decide +kernel
theorem dX7_areLike_110 : decode cX7_areLike 110 = .ok (.iinc 4 1, 3) := by decide +kernel
theorem dX7_areLike_113 : decode cX7_areLike 113 = .ok (.goto (-57), 3) := by decide +kernel
theorem dX7_areLike_116 : decode cX7_areLike 116 = .ok (.iload_n 3, 1) := by decide +kernel
theorem dX7_areLike_117 : decode cX7_areLike 117 = .ok (.ireturn, 1) := by decide +kernel
theorem dX7_opens_0 : decode cX7_opens 0 = .ok (.aload_n 0, 1) := by decide +kernel
theorem dX7_opens_1 : decode cX7_opens 1 = .ok (.getfield 34, 3) := by decide +kernel
theorem dX7_opens_4 : decode cX7_opens 4 = .ok (.iload_n 1, 1) := by decide +kernel
theorem dX7_opens_5 : decode cX7_opens 5 = .ok (.aload_n 0, 1) := by decide +kernel
theorem dX7_opens_6 : decode cX7_opens 6 = .ok (.getfield 16, 3) := by decide +kernel
theorem dX7_opens_9 : decode cX7_opens 9 = .ok (.iload_n 2, 1) := by decide +kernel
theorem dX7_opens_10 : decode cX7_opens 10 = .ok (.iaload, 1) := by decide +kernel
theorem dX7_opens_11 : decode cX7_opens 11 = .ok (.iastore, 1) := by decide +kernel
theorem dX7_opens_12 : decode cX7_opens 12 = .ok (.aload_n 0, 1) := by decide +kernel
theorem dX7_opens_13 : decode cX7_opens 13 = .ok (.getfield 37, 3) := by decide +kernel
theorem dX7_opens_16 : decode cX7_opens 16 = .ok (.iload_n 1, 1) := by decide +kernel
theorem dX7_opens_17 : decode cX7_opens 17 = .ok (.iload_n 3, 1) := by decide +kernel
theorem dX7_opens_18 : decode cX7_opens 18 = .ok (.iastore, 1) := by decide +kernel
theorem dX7_opens_19 : decode cX7_opens 19 = .ok (.aload_n 0, 1) := by decide +kernel
theorem dX7_opens_20 : decode cX7_opens 20 = .ok (.getfield 43, 3) := by decide +kernel
theorem dX7_opens_23 : decode cX7_opens 23 = .ok (.iload_n 1, 1) := by decide +kernel
theorem dX7_opens_24 : decode cX7_opens 24 = .ok (.iload_n 3, 1) := by decide +kernel
theorem dX7_opens_25 : decode cX7_opens 25 = .ok (.iastore, 1) := by decide +kernel
theorem dX7_opens_26 : decode cX7_opens 26 = .ok (.aload_n 0, 1) := by decide +kernel
theorem dX7_opens_27 : decode cX7_opens 27 = .ok (.getfield 40, 3) := by decide +kernel
theorem dX7_opens_30 : decode cX7_opens 30 = .ok (.iload_n 1, 1) := by decide +kernel
theorem dX7_opens_31 : decode cX7_opens 31 = .ok (.iload 4, 2) := by decide +kernel
theorem dX7_opens_33 : decode cX7_opens 33 = .ok (.iastore, 1) := by decide +kernel
theorem dX7_opens_34 : decode cX7_opens 34 = .ok (.aload_n 0, 1) := by decide +kernel
theorem dX7_opens_35 : decode cX7_opens 35 = .ok (.getfield 46, 3) := by decide +kernel
theorem dX7_opens_38 : decode cX7_opens 38 = .ok (.iload_n 1, 1) := by decide +kernel
theorem dX7_opens_39 : decode cX7_opens 39 = .ok (.iconst 0, 1) := by decide +kernel
theorem dX7_opens_40 : decode cX7_opens 40 = .ok (.bastore, 1) := by decide +kernel
theorem dX7_opens_41 : decode cX7_opens 41 = .ok (.return_, 1) := by decide +kernel
set_option maxRecDepth 20000 in
theorem ggX7_open_X7_isOther : GoodIn wsX7_open wsX7_isOther := goodIn_r _ [6] (by decide +kernel) (by decide +kernel)
set_option maxRecDepth 20000 in
theorem gX7_open_X7_isOther : GoodIn wsX7_open (wsV RX7 107 RX7 yX7_isOther wsX7_isOther) := goodIn_app (goodIn_of _ (by decide +kernel)) ggX7_open_X7_isOther
set_option maxRecDepth 20000 in
theorem ggX7_open_X7_isPart : GoodIn wsX7_open wsX7_isPart := goodIn_ca (goodIn_r _ [10, 11, 12, 13, 5, 14, 15, 16, 17, 18, 19, 20, 38, 39, 40, 41, 42, 43, 44, 45, 46, 47, 48, 49, 50, 51, 52, 53, 54, 55, 56, 57, 58] (by decide +kernel) (by decide +kernel)) (goodIn_sub (fun _ h => List.mem_cons_of_mem _ (List.mem_append_right _ h)) (by decide +kernel))
set_option maxRecDepth 20000 in
theorem gX7_open_X7_isPart : GoodIn wsX7_open (wsV RX7 94 RX7 yX7_isPart wsX7_isPart) := goodIn_app (goodIn_of _ (by decide +kernel)) ggX7_open_X7_isPart
set_option maxRecDepth 20000 in
theorem ggX7_open_X7_isWrong : GoodIn wsX7_open wsX7_isWrong := goodIn_r _ [24, 25, 38, 39, 40, 41, 42, 43, 44, 45, 46, 47, 48, 49, 50, 51, 52, 53, 54, 55, 56, 57, 58] (by decide +kernel) (by decide +kernel)
set_option maxRecDepth 20000 in
theorem gX7_open_X7_isWrong : GoodIn wsX7_open (wsV RX7 87 RX7 yX7_isWrong wsX7_isWrong) := goodIn_app (goodIn_of _ (by decide +kernel)) ggX7_open_X7_isWrong
set_option maxRecDepth 20000 in
theorem ggX7_open_X7_signLength : GoodIn wsX7_open wsX7_signLength := goodIn_ca (goodIn_r _ [18, 19, 20, 38, 39, 40, 41, 42, 43, 44, 45, 46, 47, 48, 49, 50, 51, 52, 53, 54, 55, 56, 57, 58] (by decide +kernel) (by decide +kernel)) (goodIn_sub (fun _ h => List.mem_cons_of_mem _ (List.mem_append_right _ h)) (by decide +kernel))
set_option maxRecDepth 20000 in
theorem gX7_open_X7_signLength : GoodIn wsX7_open (wsV RX7 79 RX7 yX7_signLength wsX7_signLength) := goodIn_app (goodIn_of _ (by decide +kernel)) ggX7_open_X7_signLength
set_option maxRecDepth 20000 in
theorem ggX7_open_X7_lesser : GoodIn wsX7_open wsX7_lesser := goodIn_r _ [29] (by decide +kernel) (by decide +kernel)
set_option maxRecDepth 20000 in
theorem gX7_open_X7_lesser : GoodIn wsX7_open (wsV RX7 136 RX7 yX7_lesser wsX7_lesser) := goodIn_app (goodIn_of _ (by decide +kernel)) ggX7_open_X7_lesser
set_option maxRecDepth 20000 in
theorem ggX7_open_X7_opens : GoodIn wsX7_open wsX7_opens := goodIn_ca (goodIn_r _ [33, 34, 20, 35, 36, 1, 37, 38, 39, 40, 41, 42, 43, 44, 45, 46, 47, 48, 49, 50, 51, 52, 53, 54, 55, 56, 57, 58] (by decide +kernel) (by decide +kernel)) (goodIn_sub (fun _ h => List.mem_cons_of_mem _ (List.mem_append_right _ h)) (by decide +kernel))
set_option maxRecDepth 20000 in
theorem gX7_open_X7_opens : GoodIn wsX7_open (wsV RX7 139 RX7 yX7_opens wsX7_opens) := goodIn_app (goodIn_of _ (by decide +kernel)) ggX7_open_X7_opens
theorem dX7_open_0 : decode cX7_open 0 = .ok (.aload_n 0, 1) := by decide +kernel
theorem dX7_open_1 : decode cX7_open 1 = .ok (.aload_n 0, 1) := by decide +kernel
theorem dX7_open_2 : decode cX7_open 2 = .ok (.iload_n 1, 1) := by decide +kernel
theorem dX7_open_3 : decode cX7_open 3 = .ok (.invokevirtual 107, 3) := by decide +kernel
theorem dX7_open_6 : decode cX7_open 6 = .ok (.ifCond .eq 13, 3) := by decide +kernel
theorem dX7_open_9 : decode cX7_open 9 = .ok (.aload_n 0, 1) := by decide +kernel
theorem dX7_open_10 : decode cX7_open 10 = .ok (.iload_n 2, 1) := by decide +kernel
theorem dX7_open_11 : decode cX7_open 11 = .ok (.iload_n 3, 1) := by decide +kernel
theorem dX7_open_12 : decode cX7_open 12 = .ok (.iconst 0, 1) := by decide +kernel
theorem dX7_open_13 : decode cX7_open 13 = .ok (.invokevirtual 94, 3) := by decide +kernel
theorem dX7_open_16 : decode cX7_open 16 = .ok (.ifCond .ne 7, 3) := by decide +kernel
theorem dX7_open_19 : decode cX7_open 19 = .ok (.iconst 1, 1) := by decide +kernel
theorem dX7_open_20 : decode cX7_open 20 = .ok (.goto 21, 3) := by decide +kernel
theorem dX7_open_23 : decode cX7_open 23 = .ok (.iload 4, 2) := by decide +kernel
theorem dX7_open_25 : decode cX7_open 25 = .ok (.ifCond .lt 11, 3) := by decide +kernel
theorem dX7_open_28 : decode cX7_open 28 = .ok (.iload 4, 2) := by decide +kernel
theorem dX7_open_30 : decode cX7_open 30 = .ok (.sipush 1000, 3) := by decide +kernel
theorem dX7_open_33 : decode cX7_open 33 = .ok (.if_icmp .le 7, 3) := by decide +kernel
theorem dX7_open_36 : decode cX7_open 36 = .ok (.iconst 2, 1) := by decide +kernel
theorem dX7_open_37 : decode cX7_open 37 = .ok (.goto 4, 3) := by decide +kernel
theorem dX7_open_40 : decode cX7_open 40 = .ok (.iconst 0, 1) := by decide +kernel
theorem dX7_open_41 : decode cX7_open 41 = .ok (.invokevirtual 87, 3) := by decide +kernel
theorem dX7_open_44 : decode cX7_open 44 = .ok (.ifCond .eq 5, 3) := by decide +kernel
theorem dX7_open_47 : decode cX7_open 47 = .ok (.iconst 0, 1) := by decide +kernel
theorem dX7_open_48 : decode cX7_open 48 = .ok (.ireturn, 1) := by decide +kernel
theorem dX7_open_49 : decode cX7_open 49 = .ok (.aload_n 0, 1) := by decide +kernel
theorem dX7_open_50 : decode cX7_open 50 = .ok (.iload_n 1, 1) := by decide +kernel
theorem dX7_open_51 : decode cX7_open 51 = .ok (.iload_n 2, 1) := by decide +kernel
theorem dX7_open_52 : decode cX7_open 52 = .ok (.iload_n 3, 1) := by decide +kernel
theorem dX7_open_53 : decode cX7_open 53 = .ok (.aload_n 0, 1) := by decide +kernel
theorem dX7_open_54 : decode cX7_open 54 = .ok (.iload_n 3, 1) := by decide +kernel
theorem dX7_open_55 : decode cX7_open 55 = .ok (.iload 4, 2) := by decide +kernel
theorem dX7_open_57 : decode cX7_open 57 = .ok (.iadd, 1) := by decide +kernel
theorem dX7_open_58 : decode cX7_open 58 = .ok (.aload_n 0, 1) := by decide +kernel
theorem dX7_open_59 : decode cX7_open 59 = .ok (.iload_n 2, 1) := by decide +kernel
theorem dX7_open_60 : decode cX7_open 60 = .ok (.invokevirtual 79, 3) := by decide +kernel
theorem dX7_open_63 : decode cX7_open 63 = .ok (.invokevirtual 136, 3) := by decide +kernel
theorem dX7_open_66 : decode cX7_open 66 = .ok (.invokevirtual 139, 3) := by decide +kernel
theorem dX7_open_69 : decode cX7_open 69 = .ok (.aload_n 0, 1) := by decide +kernel
theorem dX7_open_70 : decode cX7_open 70 = .ok (.getfield 40, 3) := by decide +kernel
theorem dX7_open_73 : decode cX7_open 73 = .ok (.iload_n 1, 1) := by decide +kernel
theorem dX7_open_74 : decode cX7_open 74 = .ok (.iaload, 1) := by decide +kernel
theorem dX7_open_75 : decode cX7_open 75 = .ok (.iload_n 3, 1) := by decide +kernel
theorem dX7_open_76 : decode cX7_open 76 = .ok (.isub, 1) := by decide +kernel
theorem dX7_open_77 : decode cX7_open 77 = .ok (.ireturn, 1) := by decide +kernel
set_option maxRecDepth 20000 in
theorem ggX7_openAll_X7_isOther : GoodIn wsX7_openAll wsX7_isOther := goodIn_r _ [6] (by decide +kernel) (by decide +kernel)
set_option maxRecDepth 20000 in
theorem gX7_openAll_X7_isOther : GoodIn wsX7_openAll (wsV RX7 107 RX7 yX7_isOther wsX7_isOther) := goodIn_app (goodIn_of _ (by decide +kernel)) ggX7_openAll_X7_isOther
set_option maxRecDepth 20000 in
theorem ggX7_openAll_X7_isRow : GoodIn wsX7_openAll wsX7_isRow := goodIn_r _ [10] (by decide +kernel) (by decide +kernel)
set_option maxRecDepth 20000 in
theorem gX7_openAll_X7_isRow : GoodIn wsX7_openAll (wsV RX7 75 RX7 yX7_isRow wsX7_isRow) := goodIn_app (goodIn_of _ (by decide +kernel)) ggX7_openAll_X7_isRow
set_option maxRecDepth 20000 in
theorem ggX7_openAll_X7_isWrong : GoodIn wsX7_openAll wsX7_isWrong := goodIn_r _ [14, 15, 30, 31, 32, 33, 34, 35, 36, 37, 38, 39, 40, 41, 42, 43, 44, 45, 46, 47, 48, 49, 50] (by decide +kernel) (by decide +kernel)
set_option maxRecDepth 20000 in
theorem gX7_openAll_X7_isWrong : GoodIn wsX7_openAll (wsV RX7 87 RX7 yX7_isWrong wsX7_isWrong) := goodIn_app (goodIn_of _ (by decide +kernel)) ggX7_openAll_X7_isWrong
set_option maxRecDepth 20000 in
theorem ggX7_openAll_X7_signLength : GoodIn wsX7_openAll wsX7_signLength := goodIn_ca (goodIn_r _ [19, 20, 21, 30, 31, 32, 33, 34, 35, 36, 37, 38, 39, 40, 41, 42, 43, 44, 45, 46, 47, 48, 49, 50] (by decide +kernel) (by decide +kernel)) (goodIn_sub (fun _ h => List.mem_cons_of_mem _ (List.mem_append_right _ h)) (by decide +kernel))
set_option maxRecDepth 20000 in
theorem gX7_openAll_X7_signLength : GoodIn wsX7_openAll (wsV RX7 79 RX7 yX7_signLength wsX7_signLength) := goodIn_app (goodIn_of _ (by decide +kernel)) ggX7_openAll_X7_signLength
set_option maxRecDepth 20000 in
theorem ggX7_openAll_X7_opens : GoodIn wsX7_openAll wsX7_opens := goodIn_ca (goodIn_r _ [25, 26, 21, 27, 28, 1, 29, 30, 31, 32, 33, 34, 35, 36, 37, 38, 39, 40, 41, 42, 43, 44, 45, 46, 47, 48, 49, 50] (by decide +kernel) (by decide +kernel)) (goodIn_sub (fun _ h => List.mem_cons_of_mem _ (List.mem_append_right _ h)) (by decide +kernel))
set_option maxRecDepth 20000 in
theorem gX7_openAll_X7_opens : GoodIn wsX7_openAll (wsV RX7 139 RX7 yX7_opens wsX7_opens) := goodIn_app (goodIn_of _ (by decide +kernel)) ggX7_openAll_X7_opens
theorem dX7_openAll_0 : decode cX7_openAll 0 = .ok (.aload_n 0, 1) := by decide +kernel
theorem dX7_openAll_1 : decode cX7_openAll 1 = .ok (.aload_n 0, 1) := by decide +kernel
theorem dX7_openAll_2 : decode cX7_openAll 2 = .ok (.iload_n 1, 1) := by decide +kernel
theorem dX7_openAll_3 : decode cX7_openAll 3 = .ok (.invokevirtual 107, 3) := by decide +kernel
theorem dX7_openAll_6 : decode cX7_openAll 6 = .ok (.ifCond .eq 15, 3) := by decide +kernel
theorem dX7_openAll_9 : decode cX7_openAll 9 = .ok (.aload_n 0, 1) := by decide +kernel
theorem dX7_openAll_10 : decode cX7_openAll 10 = .ok (.iload_n 2, 1) := by decide +kernel
theorem dX7_openAll_11 : decode cX7_openAll 11 = .ok (.invokevirtual 75, 3) := by decide +kernel
theorem dX7_openAll_14 : decode cX7_openAll 14 = .ok (.ifCond .eq 7, 3) := by decide +kernel
theorem dX7_openAll_17 : decode cX7_openAll 17 = .ok (.iconst 0, 1) := by decide +kernel
theorem dX7_openAll_18 : decode cX7_openAll 18 = .ok (.goto 4, 3) := by decide +kernel
theorem dX7_openAll_21 : decode cX7_openAll 21 = .ok (.iconst 1, 1) := by decide +kernel
theorem dX7_openAll_22 : decode cX7_openAll 22 = .ok (.invokevirtual 87, 3) := by decide +kernel
theorem dX7_openAll_25 : decode cX7_openAll 25 = .ok (.ifCond .eq 5, 3) := by decide +kernel
theorem dX7_openAll_28 : decode cX7_openAll 28 = .ok (.iconst 0, 1) := by decide +kernel
theorem dX7_openAll_29 : decode cX7_openAll 29 = .ok (.ireturn, 1) := by decide +kernel
theorem dX7_openAll_30 : decode cX7_openAll 30 = .ok (.aload_n 0, 1) := by decide +kernel
theorem dX7_openAll_31 : decode cX7_openAll 31 = .ok (.iload_n 1, 1) := by decide +kernel
theorem dX7_openAll_32 : decode cX7_openAll 32 = .ok (.iload_n 2, 1) := by decide +kernel
theorem dX7_openAll_33 : decode cX7_openAll 33 = .ok (.iconst 0, 1) := by decide +kernel
theorem dX7_openAll_34 : decode cX7_openAll 34 = .ok (.aload_n 0, 1) := by decide +kernel
theorem dX7_openAll_35 : decode cX7_openAll 35 = .ok (.iload_n 2, 1) := by decide +kernel
theorem dX7_openAll_36 : decode cX7_openAll 36 = .ok (.invokevirtual 79, 3) := by decide +kernel
theorem dX7_openAll_39 : decode cX7_openAll 39 = .ok (.invokevirtual 139, 3) := by decide +kernel
theorem dX7_openAll_42 : decode cX7_openAll 42 = .ok (.aload_n 0, 1) := by decide +kernel
theorem dX7_openAll_43 : decode cX7_openAll 43 = .ok (.getfield 40, 3) := by decide +kernel
theorem dX7_openAll_46 : decode cX7_openAll 46 = .ok (.iload_n 1, 1) := by decide +kernel
theorem dX7_openAll_47 : decode cX7_openAll 47 = .ok (.iaload, 1) := by decide +kernel
theorem dX7_openAll_48 : decode cX7_openAll 48 = .ok (.ireturn, 1) := by decide +kernel
set_option maxRecDepth 20000 in
theorem ggX7_shut_X7_isOther : GoodIn wsX7_shut wsX7_isOther := goodIn_r _ [9] (by decide +kernel) (by decide +kernel)
set_option maxRecDepth 20000 in
theorem gX7_shut_X7_isOther : GoodIn wsX7_shut (wsV RX7 107 RX7 yX7_isOther wsX7_isOther) := goodIn_app (goodIn_of _ (by decide +kernel)) ggX7_shut_X7_isOther
set_option maxRecDepth 20000 in
theorem ggX7_shut_X7_isWrong : GoodIn wsX7_shut wsX7_isWrong := goodIn_r _ [13, 14, 15, 16, 17, 18, 19, 20, 21, 22, 23, 24, 25, 26, 27, 28, 29, 30, 31, 32, 33, 34, 35] (by decide +kernel) (by decide +kernel)
set_option maxRecDepth 20000 in
theorem gX7_shut_X7_isWrong : GoodIn wsX7_shut (wsV RX7 87 RX7 yX7_isWrong wsX7_isWrong) := goodIn_app (goodIn_of _ (by decide +kernel)) ggX7_shut_X7_isWrong
theorem dX7_shut_0 : decode cX7_shut 0 = .ok (.aload_n 0, 1) := by decide +kernel
theorem dX7_shut_1 : decode cX7_shut 1 = .ok (.aload_n 0, 1) := by decide +kernel
theorem dX7_shut_2 : decode cX7_shut 2 = .ok (.iload_n 1, 1) := by decide +kernel
theorem dX7_shut_3 : decode cX7_shut 3 = .ok (.invokevirtual 107, 3) := by decide +kernel
theorem dX7_shut_6 : decode cX7_shut 6 = .ok (.ifCond .ne 7, 3) := by decide +kernel
theorem dX7_shut_9 : decode cX7_shut 9 = .ok (.iconst 1, 1) := by decide +kernel
theorem dX7_shut_10 : decode cX7_shut 10 = .ok (.goto 17, 3) := by decide +kernel
theorem dX7_shut_13 : decode cX7_shut 13 = .ok (.aload_n 0, 1) := by decide +kernel
theorem dX7_shut_14 : decode cX7_shut 14 = .ok (.getfield 34, 3) := by decide +kernel
theorem dX7_shut_17 : decode cX7_shut 17 = .ok (.iload_n 1, 1) := by decide +kernel
theorem dX7_shut_18 : decode cX7_shut 18 = .ok (.iaload, 1) := by decide +kernel
theorem dX7_shut_19 : decode cX7_shut 19 = .ok (.ifCond .ge 7, 3) := by decide +kernel
theorem dX7_shut_22 : decode cX7_shut 22 = .ok (.iconst 2, 1) := by decide +kernel
theorem dX7_shut_23 : decode cX7_shut 23 = .ok (.goto 4, 3) := by decide +kernel
theorem dX7_shut_26 : decode cX7_shut 26 = .ok (.iconst 0, 1) := by decide +kernel
theorem dX7_shut_27 : decode cX7_shut 27 = .ok (.invokevirtual 87, 3) := by decide +kernel
theorem dX7_shut_30 : decode cX7_shut 30 = .ok (.ifCond .eq 5, 3) := by decide +kernel
theorem dX7_shut_33 : decode cX7_shut 33 = .ok (.iconst 0, 1) := by decide +kernel
theorem dX7_shut_34 : decode cX7_shut 34 = .ok (.ireturn, 1) := by decide +kernel
theorem dX7_shut_35 : decode cX7_shut 35 = .ok (.aload_n 0, 1) := by decide +kernel
theorem dX7_shut_36 : decode cX7_shut 36 = .ok (.getfield 46, 3) := by decide +kernel
theorem dX7_shut_39 : decode cX7_shut 39 = .ok (.iload_n 1, 1) := by decide +kernel
theorem dX7_shut_40 : decode cX7_shut 40 = .ok (.baload, 1) := by decide +kernel
theorem dX7_shut_41 : decode cX7_shut 41 = .ok (.ifCond .eq 7, 3) := by decide +kernel
theorem dX7_shut_44 : decode cX7_shut 44 = .ok (.iconst 0, 1) := by decide +kernel
theorem dX7_shut_45 : decode cX7_shut 45 = .ok (.goto 16, 3) := by decide +kernel
theorem dX7_shut_48 : decode cX7_shut 48 = .ok (.aload_n 0, 1) := by decide +kernel
theorem dX7_shut_49 : decode cX7_shut 49 = .ok (.getfield 40, 3) := by decide +kernel
theorem dX7_shut_52 : decode cX7_shut 52 = .ok (.iload_n 1, 1) := by decide +kernel
theorem dX7_shut_53 : decode cX7_shut 53 = .ok (.iaload, 1) := by decide +kernel
theorem dX7_shut_54 : decode cX7_shut 54 = .ok (.aload_n 0, 1) := by decide +kernel
theorem dX7_shut_55 : decode cX7_shut 55 = .ok (.getfield 37, 3) := by decide +kernel
theorem dX7_shut_58 : decode cX7_shut 58 = .ok (.iload_n 1, 1) := by decide +kernel
theorem dX7_shut_59 : decode cX7_shut 59 = .ok (.iaload, 1) := by decide +kernel
theorem dX7_shut_60 : decode cX7_shut 60 = .ok (.isub, 1) := by decide +kernel
theorem dX7_shut_61 : decode cX7_shut 61 = .ok (.istore_n 2, 1) := by decide +kernel
theorem dX7_shut_62 : decode cX7_shut 62 = .ok (.aload_n 0, 1) := by decide +kernel
theorem dX7_shut_63 : decode cX7_shut 63 = .ok (.getfield 46, 3) := by decide +kernel
theorem dX7_shut_66 : decode cX7_shut 66 = .ok (.iload_n 1, 1) := by decide +kernel
theorem dX7_shut_67 : decode cX7_shut 67 = .ok (.iconst 1, 1) := by decide +kernel
theorem dX7_shut_68 : decode cX7_shut 68 = .ok (.bastore, 1) := by decide +kernel
theorem dX7_shut_69 : decode cX7_shut 69 = .ok (.iload_n 2, 1) := by decide +kernel
theorem dX7_shut_70 : decode cX7_shut 70 = .ok (.ireturn, 1) := by decide +kernel
theorem dX7_isClosed_0 : decode cX7_isClosed 0 = .ok (.aload_n 0, 1) := by decide +kernel
theorem dX7_isClosed_1 : decode cX7_isClosed 1 = .ok (.getfield 34, 3) := by decide +kernel
theorem dX7_isClosed_4 : decode cX7_isClosed 4 = .ok (.iload_n 1, 1) := by decide +kernel
theorem dX7_isClosed_5 : decode cX7_isClosed 5 = .ok (.iaload, 1) := by decide +kernel
theorem dX7_isClosed_6 : decode cX7_isClosed 6 = .ok (.ifCond .lt 12, 3) := by decide +kernel
theorem dX7_isClosed_9 : decode cX7_isClosed 9 = .ok (.aload_n 0, 1) := by decide +kernel
theorem dX7_isClosed_10 : decode cX7_isClosed 10 = .ok (.getfield 46, 3) := by decide +kernel
theorem dX7_isClosed_13 : decode cX7_isClosed 13 = .ok (.iload_n 1, 1) := by decide +kernel
theorem dX7_isClosed_14 : decode cX7_isClosed 14 = .ok (.baload, 1) := by decide +kernel
theorem dX7_isClosed_15 : decode cX7_isClosed 15 = .ok (.ifCond .eq 7, 3) := by decide +kernel
theorem dX7_isClosed_18 : decode cX7_isClosed 18 = .ok (.iconst 1, 1) := by decide +kernel
theorem dX7_isClosed_19 : decode cX7_isClosed 19 = .ok (.goto 4, 3) := by decide +kernel
theorem dX7_isClosed_22 : decode cX7_isClosed 22 = .ok (.iconst 0, 1) := by decide +kernel
theorem dX7_isClosed_23 : decode cX7_isClosed 23 = .ok (.ireturn, 1) := by decide +kernel
set_option maxRecDepth 20000 in
theorem ggX7_read_X7_isOther : GoodIn wsX7_read wsX7_isOther := goodIn_r _ [9] (by decide +kernel) (by decide +kernel)
set_option maxRecDepth 20000 in
theorem gX7_read_X7_isOther : GoodIn wsX7_read (wsV RX7 107 RX7 yX7_isOther wsX7_isOther) := goodIn_app (goodIn_of _ (by decide +kernel)) ggX7_read_X7_isOther
set_option maxRecDepth 20000 in
theorem ggX7_read_X7_isClosed : GoodIn wsX7_read wsX7_isClosed := goodIn_ca (goodIn_r _ [13, 4, 14, 20, 21, 22, 23, 24, 25, 26, 27, 28, 29, 30, 31, 32, 33, 34, 35, 36, 37, 38, 39, 40] (by decide +kernel) (by decide +kernel)) (goodIn_sub (fun _ h => List.mem_cons_of_mem _ (List.mem_append_right _ h)) (by decide +kernel))
set_option maxRecDepth 20000 in
theorem gX7_read_X7_isClosed : GoodIn wsX7_read (wsV RX7 143 RX7 yX7_isClosed wsX7_isClosed) := goodIn_app (goodIn_of _ (by decide +kernel)) ggX7_read_X7_isClosed
set_option maxRecDepth 20000 in
theorem ggX7_read_X7_isWrong : GoodIn wsX7_read wsX7_isWrong := goodIn_r _ [18, 19, 20, 21, 22, 23, 24, 25, 26, 27, 28, 29, 30, 31, 32, 33, 34, 35, 36, 37, 38, 39, 40] (by decide +kernel) (by decide +kernel)
set_option maxRecDepth 20000 in
theorem gX7_read_X7_isWrong : GoodIn wsX7_read (wsV RX7 87 RX7 yX7_isWrong wsX7_isWrong) := goodIn_app (goodIn_of _ (by decide +kernel)) ggX7_read_X7_isWrong
theorem dX7_read_0 : decode cX7_read 0 = .ok (.aload_n 0, 1) := by decide +kernel
theorem dX7_read_1 : decode cX7_read 1 = .ok (.aload_n 0, 1) := by decide +kernel
theorem dX7_read_2 : decode cX7_read 2 = .ok (.iload_n 1, 1) := by decide +kernel
theorem dX7_read_3 : decode cX7_read 3 = .ok (.invokevirtual 107, 3) := by decide +kernel
theorem dX7_read_6 : decode cX7_read 6 = .ok (.ifCond .ne 7, 3) := by decide +kernel
theorem dX7_read_9 : decode cX7_read 9 = .ok (.iconst 1, 1) := by decide +kernel
theorem dX7_read_10 : decode cX7_read 10 = .ok (.goto 16, 3) := by decide +kernel
theorem dX7_read_13 : decode cX7_read 13 = .ok (.aload_n 0, 1) := by decide +kernel
theorem dX7_read_14 : decode cX7_read 14 = .ok (.iload_n 1, 1) := by decide +kernel
theorem dX7_read_15 : decode cX7_read 15 = .ok (.invokevirtual 143, 3) := by decide +kernel
theorem dX7_read_18 : decode cX7_read 18 = .ok (.ifCond .eq 7, 3) := by decide +kernel
theorem dX7_read_21 : decode cX7_read 21 = .ok (.iconst 2, 1) := by decide +kernel
theorem dX7_read_22 : decode cX7_read 22 = .ok (.goto 4, 3) := by decide +kernel
theorem dX7_read_25 : decode cX7_read 25 = .ok (.iconst 0, 1) := by decide +kernel
theorem dX7_read_26 : decode cX7_read 26 = .ok (.invokevirtual 87, 3) := by decide +kernel
theorem dX7_read_29 : decode cX7_read 29 = .ok (.ifCond .eq 5, 3) := by decide +kernel
theorem dX7_read_32 : decode cX7_read 32 = .ok (.iconst 0, 1) := by decide +kernel
theorem dX7_read_33 : decode cX7_read 33 = .ok (.ireturn, 1) := by decide +kernel
theorem dX7_read_34 : decode cX7_read 34 = .ok (.aload_n 0, 1) := by decide +kernel
theorem dX7_read_35 : decode cX7_read 35 = .ok (.getfield 37, 3) := by decide +kernel
theorem dX7_read_38 : decode cX7_read 38 = .ok (.iload_n 1, 1) := by decide +kernel
theorem dX7_read_39 : decode cX7_read 39 = .ok (.iaload, 1) := by decide +kernel
theorem dX7_read_40 : decode cX7_read 40 = .ok (.aload_n 0, 1) := by decide +kernel
theorem dX7_read_41 : decode cX7_read 41 = .ok (.getfield 40, 3) := by decide +kernel
theorem dX7_read_44 : decode cX7_read 44 = .ok (.iload_n 1, 1) := by decide +kernel
theorem dX7_read_45 : decode cX7_read 45 = .ok (.iaload, 1) := by decide +kernel
theorem dX7_read_46 : decode cX7_read 46 = .ok (.if_icmp .ne 5, 3) := by decide +kernel
theorem dX7_read_49 : decode cX7_read 49 = .ok (.iconst (-1), 1) := by decide +kernel
theorem dX7_read_50 : decode cX7_read 50 = .ok (.ireturn, 1) := by decide +kernel
theorem dX7_read_51 : decode cX7_read 51 = .ok (.aload_n 0, 1) := by decide +kernel
theorem dX7_read_52 : decode cX7_read 52 = .ok (.getfield 37, 3) := by decide +kernel
theorem dX7_read_55 : decode cX7_read 55 = .ok (.iload_n 1, 1) := by decide +kernel
theorem dX7_read_56 : decode cX7_read 56 = .ok (.dup2, 1) := by decide +kernel
theorem dX7_read_57 : decode cX7_read 57 = .ok (.iaload, 1) := by decide +kernel
theorem dX7_read_58 : decode cX7_read 58 = .ok (.iconst 1, 1) := by decide +kernel
theorem dX7_read_59 : decode cX7_read 59 = .ok (.iadd, 1) := by decide +kernel
theorem dX7_read_60 : decode cX7_read 60 = .ok (.iastore, 1) := by decide +kernel
theorem dX7_read_61 : decode cX7_read 61 = .ok (.aload_n 0, 1) := by decide +kernel
theorem dX7_read_62 : decode cX7_read 62 = .ok (.getfield 7, 3) := by decide +kernel
theorem dX7_read_65 : decode cX7_read 65 = .ok (.sipush 256, 3) := by decide +kernel
theorem dX7_read_68 : decode cX7_read 68 = .ok (.aload_n 0, 1) := by decide +kernel
theorem dX7_read_69 : decode cX7_read 69 = .ok (.getfield 34, 3) := by decide +kernel
theorem dX7_read_72 : decode cX7_read 72 = .ok (.iload_n 1, 1) := by decide +kernel
theorem dX7_read_73 : decode cX7_read 73 = .ok (.iaload, 1) := by decide +kernel
theorem dX7_read_74 : decode cX7_read 74 = .ok (.imul, 1) := by decide +kernel
theorem dX7_read_75 : decode cX7_read 75 = .ok (.aload_n 0, 1) := by decide +kernel
theorem dX7_read_76 : decode cX7_read 76 = .ok (.getfield 37, 3) := by decide +kernel
theorem dX7_read_79 : decode cX7_read 79 = .ok (.iload_n 1, 1) := by decide +kernel
theorem dX7_read_80 : decode cX7_read 80 = .ok (.iaload, 1) := by decide +kernel
theorem dX7_read_81 : decode cX7_read 81 = .ok (.iadd, 1) := by decide +kernel
theorem dX7_read_82 : decode cX7_read 82 = .ok (.iconst 1, 1) := by decide +kernel
theorem dX7_read_83 : decode cX7_read 83 = .ok (.isub, 1) := by decide +kernel
theorem dX7_read_84 : decode cX7_read 84 = .ok (.iaload, 1) := by decide +kernel
theorem dX7_read_85 : decode cX7_read 85 = .ok (.ireturn, 1) := by decide +kernel
set_option maxRecDepth 20000 in
theorem ggX7_readPart_X7_isOther : GoodIn wsX7_readPart wsX7_isOther := goodIn_r _ [10] (by decide +kernel) (by decide +kernel)
set_option maxRecDepth 20000 in
theorem gX7_readPart_X7_isOther : GoodIn wsX7_readPart (wsV RX7 107 RX7 yX7_isOther wsX7_isOther) := goodIn_app (goodIn_of _ (by decide +kernel)) ggX7_readPart_X7_isOther
set_option maxRecDepth 20000 in
theorem ggX7_readPart_X7_isPart : GoodIn wsX7_readPart wsX7_isPart := goodIn_ca (goodIn_r _ [14, 15, 16, 17, 9, 18, 19, 20, 21, 22, 23, 2, 38, 39, 40, 41, 42, 43, 44, 45, 46, 47, 48, 49, 50, 51, 52, 53, 54, 55, 56, 57, 58] (by decide +kernel) (by decide +kernel)) (goodIn_sub (fun _ h => List.mem_cons_of_mem _ (List.mem_append_right _ h)) (by decide +kernel))
set_option maxRecDepth 20000 in
theorem gX7_readPart_X7_isPart : GoodIn wsX7_readPart (wsV RX7 94 RX7 yX7_isPart wsX7_isPart) := goodIn_app (goodIn_of _ (by decide +kernel)) ggX7_readPart_X7_isPart
set_option maxRecDepth 20000 in
theorem ggX7_readPart_X7_isClosed : GoodIn wsX7_readPart wsX7_isClosed := goodIn_ca (goodIn_r _ [27, 1, 28, 38, 39, 40, 41, 42, 43, 44, 45, 46, 47, 48, 49, 50, 51, 52, 53, 54, 55, 56, 57, 58] (by decide +kernel) (by decide +kernel)) (goodIn_sub (fun _ h => List.mem_cons_of_mem _ (List.mem_append_right _ h)) (by decide +kernel))
set_option maxRecDepth 20000 in
theorem gX7_readPart_X7_isClosed : GoodIn wsX7_readPart (wsV RX7 143 RX7 yX7_isClosed wsX7_isClosed) := goodIn_app (goodIn_of _ (by decide +kernel)) ggX7_readPart_X7_isClosed
set_option maxRecDepth 20000 in
theorem ggX7_readPart_X7_isWrong : GoodIn wsX7_readPart wsX7_isWrong := goodIn_r _ [32, 33, 38, 39, 40, 41, 42, 43, 44, 45, 46, 47, 48, 49, 50, 51, 52, 53, 54, 55, 56, 57, 58] (by decide +kernel) (by decide +kernel)
set_option maxRecDepth 20000 in
theorem gX7_readPart_X7_isWrong : GoodIn wsX7_readPart (wsV RX7 87 RX7 yX7_isWrong wsX7_isWrong) := goodIn_app (goodIn_of _ (by decide +kernel)) ggX7_readPart_X7_isWrong
set_option maxRecDepth 20000 in
theorem ggX7_readPart_X7_lesser : GoodIn wsX7_readPart wsX7_lesser := goodIn_r _ [37] (by decide +kernel) (by decide +kernel)
set_option maxRecDepth 20000 in
theorem gX7_readPart_X7_lesser : GoodIn wsX7_readPart (wsV RX7 136 RX7 yX7_lesser wsX7_lesser) := goodIn_app (goodIn_of _ (by decide +kernel)) ggX7_readPart_X7_lesser
theorem dX7_readPart_0 : decode cX7_readPart 0 = .ok (.aload_n 0, 1) := by decide +kernel
theorem dX7_readPart_1 : decode cX7_readPart 1 = .ok (.iload_n 1, 1) := by decide +kernel
theorem dX7_readPart_2 : decode cX7_readPart 2 = .ok (.invokevirtual 107, 3) := by decide +kernel
theorem dX7_readPart_5 : decode cX7_readPart 5 = .ok (.ifCond .eq 28, 3) := by decide +kernel
theorem dX7_readPart_8 : decode cX7_readPart 8 = .ok (.aload_n 0, 1) := by decide +kernel
theorem dX7_readPart_9 : decode cX7_readPart 9 = .ok (.iload_n 2, 1) := by decide +kernel
theorem dX7_readPart_10 : decode cX7_readPart 10 = .ok (.iload_n 3, 1) := by decide +kernel
theorem dX7_readPart_11 : decode cX7_readPart 11 = .ok (.iload 4, 2) := by decide +kernel
theorem dX7_readPart_13 : decode cX7_readPart 13 = .ok (.iconst 1, 1) := by decide +kernel
theorem dX7_readPart_14 : decode cX7_readPart 14 = .ok (.if_icmp .ge 7, 3) := by decide +kernel
theorem dX7_readPart_17 : decode cX7_readPart 17 = .ok (.iconst 0, 1) := by decide +kernel
theorem dX7_readPart_18 : decode cX7_readPart 18 = .ok (.goto 5, 3) := by decide +kernel
theorem dX7_readPart_21 : decode cX7_readPart 21 = .ok (.iload 4, 2) := by decide +kernel
theorem dX7_readPart_23 : decode cX7_readPart 23 = .ok (.invokevirtual 94, 3) := by decide +kernel
theorem dX7_readPart_26 : decode cX7_readPart 26 = .ok (.ifCond .eq 7, 3) := by decide +kernel
theorem dX7_readPart_29 : decode cX7_readPart 29 = .ok (.iconst 1, 1) := by decide +kernel
theorem dX7_readPart_30 : decode cX7_readPart 30 = .ok (.goto 4, 3) := by decide +kernel
theorem dX7_readPart_33 : decode cX7_readPart 33 = .ok (.iconst 0, 1) := by decide +kernel
theorem dX7_readPart_34 : decode cX7_readPart 34 = .ok (.istore 5, 2) := by decide +kernel
theorem dX7_readPart_36 : decode cX7_readPart 36 = .ok (.aload_n 0, 1) := by decide +kernel
theorem dX7_readPart_37 : decode cX7_readPart 37 = .ok (.iload 5, 2) := by decide +kernel
theorem dX7_readPart_39 : decode cX7_readPart 39 = .ok (.ifCond .eq 8, 3) := by decide +kernel
theorem dX7_readPart_42 : decode cX7_readPart 42 = .ok (.iload 4, 2) := by decide +kernel
theorem dX7_readPart_44 : decode cX7_readPart 44 = .ok (.ifCond .ge 7, 3) := by decide +kernel
theorem dX7_readPart_47 : decode cX7_readPart 47 = .ok (.iconst 1, 1) := by decide +kernel
theorem dX7_readPart_48 : decode cX7_readPart 48 = .ok (.goto 45, 3) := by decide +kernel
theorem dX7_readPart_51 : decode cX7_readPart 51 = .ok (.iload 4, 2) := by decide +kernel
theorem dX7_readPart_53 : decode cX7_readPart 53 = .ok (.iconst 1, 1) := by decide +kernel
theorem dX7_readPart_54 : decode cX7_readPart 54 = .ok (.if_icmp .ge 7, 3) := by decide +kernel
theorem dX7_readPart_57 : decode cX7_readPart 57 = .ok (.iconst 2, 1) := by decide +kernel
theorem dX7_readPart_58 : decode cX7_readPart 58 = .ok (.goto 35, 3) := by decide +kernel
theorem dX7_readPart_61 : decode cX7_readPart 61 = .ok (.aload_n 0, 1) := by decide +kernel
theorem dX7_readPart_62 : decode cX7_readPart 62 = .ok (.iload_n 1, 1) := by decide +kernel
theorem dX7_readPart_63 : decode cX7_readPart 63 = .ok (.invokevirtual 143, 3) := by decide +kernel
theorem dX7_readPart_66 : decode cX7_readPart 66 = .ok (.ifCond .eq 7, 3) := by decide +kernel
theorem dX7_readPart_69 : decode cX7_readPart 69 = .ok (.iconst 3, 1) := by decide +kernel
theorem dX7_readPart_70 : decode cX7_readPart 70 = .ok (.goto 23, 3) := by decide +kernel
theorem dX7_readPart_73 : decode cX7_readPart 73 = .ok (.aload_n 0, 1) := by decide +kernel
theorem dX7_readPart_74 : decode cX7_readPart 74 = .ok (.getfield 34, 3) := by decide +kernel
theorem dX7_readPart_77 : decode cX7_readPart 77 = .ok (.iload_n 1, 1) := by decide +kernel
theorem dX7_readPart_78 : decode cX7_readPart 78 = .ok (.iaload, 1) := by decide +kernel
theorem dX7_readPart_79 : decode cX7_readPart 79 = .ok (.aload_n 0, 1) := by decide +kernel
theorem dX7_readPart_80 : decode cX7_readPart 80 = .ok (.getfield 16, 3) := by decide +kernel
theorem dX7_readPart_83 : decode cX7_readPart 83 = .ok (.iload_n 2, 1) := by decide +kernel
theorem dX7_readPart_84 : decode cX7_readPart 84 = .ok (.iaload, 1) := by decide +kernel
theorem dX7_readPart_85 : decode cX7_readPart 85 = .ok (.if_icmp .ne 7, 3) := by decide +kernel
theorem dX7_readPart_88 : decode cX7_readPart 88 = .ok (.iconst 4, 1) := by decide +kernel
theorem dX7_readPart_89 : decode cX7_readPart 89 = .ok (.goto 4, 3) := by decide +kernel
theorem dX7_readPart_92 : decode cX7_readPart 92 = .ok (.iconst 0, 1) := by decide +kernel
theorem dX7_readPart_93 : decode cX7_readPart 93 = .ok (.invokevirtual 87, 3) := by decide +kernel
theorem dX7_readPart_96 : decode cX7_readPart 96 = .ok (.ifCond .eq 5, 3) := by decide +kernel
theorem dX7_readPart_99 : decode cX7_readPart 99 = .ok (.iconst 0, 1) := by decide +kernel
theorem dX7_readPart_100 : decode cX7_readPart 100 = .ok (.ireturn, 1) := by decide +kernel
theorem dX7_readPart_101 : decode cX7_readPart 101 = .ok (.aload_n 0, 1) := by decide +kernel
theorem dX7_readPart_102 : decode cX7_readPart 102 = .ok (.iload 4, 2) := by decide +kernel
theorem dX7_readPart_104 : decode cX7_readPart 104 = .ok (.aload_n 0, 1) := by decide +kernel
theorem dX7_readPart_105 : decode cX7_readPart 105 = .ok (.getfield 40, 3) := by decide +kernel
theorem dX7_readPart_108 : decode cX7_readPart 108 = .ok (.iload_n 1, 1) := by decide +kernel
theorem dX7_readPart_109 : decode cX7_readPart 109 = .ok (.iaload, 1) := by decide +kernel
theorem dX7_readPart_110 : decode cX7_readPart 110 = .ok (.aload_n 0, 1) := by decide +kernel
theorem dX7_readPart_111 : decode cX7_readPart 111 = .ok (.getfield 37, 3) := by decide +kernel
theorem dX7_readPart_114 : decode cX7_readPart 114 = .ok (.iload_n 1, 1) := by decide +kernel
theorem dX7_readPart_115 : decode cX7_readPart 115 = .ok (.iaload, 1) := by decide +kernel
theorem dX7_readPart_116 : decode cX7_readPart 116 = .ok (.isub, 1) := by decide +kernel
theorem dX7_readPart_117 : decode cX7_readPart 117 = .ok (.invokevirtual 136, 3) := by decide +kernel
theorem dX7_readPart_120 : decode cX7_readPart 120 = .ok (.istore 6, 2) := by decide +kernel
theorem dX7_readPart_122 : decode cX7_readPart 122 = .ok (.iconst 0, 1) := by decide +kernel
theorem dX7_readPart_123 : decode cX7_readPart 123 = .ok (.istore 7, 2) := by decide +kernel
theorem dX7_readPart_125 : decode cX7_readPart 125 = .ok (.iload 7, 2) := by decide +kernel
theorem dX7_readPart_127 : decode cX7_readPart 127 = .ok (.iload 6, 2) := by decide +kernel
theorem dX7_readPart_129 : decode cX7_readPart 129 = .ok (.if_icmp .ge 54, 3) := by decide +kernel
theorem dX7_readPart_132 : decode cX7_readPart 132 = .ok (.aload_n 0, 1) := by decide +kernel
theorem dX7_readPart_133 : decode cX7_readPart 133 = .ok (.getfield 7, 3) := by decide +kernel
theorem dX7_readPart_136 : decode cX7_readPart 136 = .ok (.sipush 256, 3) := by decide +kernel
theorem dX7_readPart_139 : decode cX7_readPart 139 = .ok (.aload_n 0, 1) := by decide +kernel
theorem dX7_readPart_140 : decode cX7_readPart 140 = .ok (.getfield 16, 3) := by decide +kernel
theorem dX7_readPart_143 : decode cX7_readPart 143 = .ok (.iload_n 2, 1) := by decide +kernel
theorem dX7_readPart_144 : decode cX7_readPart 144 = .ok (.iaload, 1) := by decide +kernel
theorem dX7_readPart_145 : decode cX7_readPart 145 = .ok (.imul, 1) := by decide +kernel
theorem dX7_readPart_146 : decode cX7_readPart 146 = .ok (.iload_n 3, 1) := by decide +kernel
theorem dX7_readPart_147 : decode cX7_readPart 147 = .ok (.iadd, 1) := by decide +kernel
theorem dX7_readPart_148 : decode cX7_readPart 148 = .ok (.iload 7, 2) := by decide +kernel
theorem dX7_readPart_150 : decode cX7_readPart 150 = .ok (.iadd, 1) := by decide +kernel
theorem dX7_readPart_151 : decode cX7_readPart 151 = .ok (.aload_n 0, 1) := by decide +kernel
theorem dX7_readPart_152 : decode cX7_readPart 152 = .ok (.getfield 7, 3) := by decide +kernel
theorem dX7_readPart_155 : decode cX7_readPart 155 = .ok (.sipush 256, 3) := by decide +kernel
theorem dX7_readPart_158 : decode cX7_readPart 158 = .ok (.aload_n 0, 1) := by decide +kernel
theorem dX7_readPart_159 : decode cX7_readPart 159 = .ok (.getfield 34, 3) := by decide +kernel
theorem dX7_readPart_162 : decode cX7_readPart 162 = .ok (.iload_n 1, 1) := by decide +kernel
theorem dX7_readPart_163 : decode cX7_readPart 163 = .ok (.iaload, 1) := by decide +kernel
theorem dX7_readPart_164 : decode cX7_readPart 164 = .ok (.imul, 1) := by decide +kernel
theorem dX7_readPart_165 : decode cX7_readPart 165 = .ok (.aload_n 0, 1) := by decide +kernel
theorem dX7_readPart_166 : decode cX7_readPart 166 = .ok (.getfield 37, 3) := by decide +kernel
theorem dX7_readPart_169 : decode cX7_readPart 169 = .ok (.iload_n 1, 1) := by decide +kernel
theorem dX7_readPart_170 : decode cX7_readPart 170 = .ok (.iaload, 1) := by decide +kernel
theorem dX7_readPart_171 : decode cX7_readPart 171 = .ok (.iadd, 1) := by decide +kernel
theorem dX7_readPart_172 : decode cX7_readPart 172 = .ok (.iload 7, 2) := by decide +kernel
theorem dX7_readPart_174 : decode cX7_readPart 174 = .ok (.iadd, 1) := by decide +kernel
theorem dX7_readPart_175 : decode cX7_readPart 175 = .ok (.iaload, 1) := by decide +kernel
theorem dX7_readPart_176 : decode cX7_readPart 176 = .ok (.iastore, 1) := by decide +kernel
theorem dX7_readPart_177 : decode cX7_readPart 177 = .ok (.iinc 7 1, 3) := by decide +kernel
theorem dX7_readPart_180 : decode cX7_readPart 180 = .ok (.goto (-55), 3) := by decide +kernel
theorem dX7_readPart_183 : decode cX7_readPart 183 = .ok (.aload_n 0, 1) := by decide +kernel
theorem dX7_readPart_184 : decode cX7_readPart 184 = .ok (.getfield 37, 3) := by decide +kernel
theorem dX7_readPart_187 : decode cX7_readPart 187 = .ok (.iload_n 1, 1) := by decide +kernel
theorem dX7_readPart_188 : decode cX7_readPart 188 = .ok (.dup2, 1) := by decide +kernel
theorem dX7_readPart_189 : decode cX7_readPart 189 = .ok (.iaload, 1) := by decide +kernel
theorem dX7_readPart_190 : decode cX7_readPart 190 = .ok (.iload 6, 2) := by decide +kernel
theorem dX7_readPart_192 : decode cX7_readPart 192 = .ok (.iadd, 1) := by decide +kernel
theorem dX7_readPart_193 : decode cX7_readPart 193 = .ok (.iastore, 1) := by decide +kernel
theorem dX7_readPart_194 : decode cX7_readPart 194 = .ok (.iload 6, 2) := by decide +kernel
theorem dX7_readPart_196 : decode cX7_readPart 196 = .ok (.ifCond .ne 7, 3) := by decide +kernel
theorem dX7_readPart_199 : decode cX7_readPart 199 = .ok (.iconst (-1), 1) := by decide +kernel
theorem dX7_readPart_200 : decode cX7_readPart 200 = .ok (.goto 5, 3) := by decide +kernel
theorem dX7_readPart_203 : decode cX7_readPart 203 = .ok (.iload 6, 2) := by decide +kernel
theorem dX7_readPart_205 : decode cX7_readPart 205 = .ok (.ireturn, 1) := by decide +kernel
set_option maxRecDepth 20000 in
theorem ggX7_skip_X7_isOther : GoodIn wsX7_skip wsX7_isOther := goodIn_r _ [7] (by decide +kernel) (by decide +kernel)
set_option maxRecDepth 20000 in
theorem gX7_skip_X7_isOther : GoodIn wsX7_skip (wsV RX7 107 RX7 yX7_isOther wsX7_isOther) := goodIn_app (goodIn_of _ (by decide +kernel)) ggX7_skip_X7_isOther
set_option maxRecDepth 20000 in
theorem ggX7_skip_X7_isClosed : GoodIn wsX7_skip wsX7_isClosed := goodIn_ca (goodIn_r _ [11, 12, 13, 19, 20, 21, 22, 23, 24, 25, 26, 27, 28, 29, 30, 31, 32, 33, 34, 35, 36, 37, 38, 39] (by decide +kernel) (by decide +kernel)) (goodIn_sub (fun _ h => List.mem_cons_of_mem _ (List.mem_append_right _ h)) (by decide +kernel))
set_option maxRecDepth 20000 in
theorem gX7_skip_X7_isClosed : GoodIn wsX7_skip (wsV RX7 143 RX7 yX7_isClosed wsX7_isClosed) := goodIn_app (goodIn_of _ (by decide +kernel)) ggX7_skip_X7_isClosed
set_option maxRecDepth 20000 in
theorem ggX7_skip_X7_isWrong : GoodIn wsX7_skip wsX7_isWrong := goodIn_r _ [17, 18, 19, 20, 21, 22, 23, 24, 25, 26, 27, 28, 29, 30, 31, 32, 33, 34, 35, 36, 37, 38, 39] (by decide +kernel) (by decide +kernel)
set_option maxRecDepth 20000 in
theorem gX7_skip_X7_isWrong : GoodIn wsX7_skip (wsV RX7 87 RX7 yX7_isWrong wsX7_isWrong) := goodIn_app (goodIn_of _ (by decide +kernel)) ggX7_skip_X7_isWrong
theorem dX7_skip_0 : decode cX7_skip 0 = .ok (.aload_n 0, 1) := by decide +kernel
theorem dX7_skip_1 : decode cX7_skip 1 = .ok (.aload_n 0, 1) := by decide +kernel
theorem dX7_skip_2 : decode cX7_skip 2 = .ok (.iload_n 1, 1) := by decide +kernel
theorem dX7_skip_3 : decode cX7_skip 3 = .ok (.invokevirtual 107, 3) := by decide +kernel
theorem dX7_skip_6 : decode cX7_skip 6 = .ok (.ifCond .ne 7, 3) := by decide +kernel
theorem dX7_skip_9 : decode cX7_skip 9 = .ok (.iconst 1, 1) := by decide +kernel
theorem dX7_skip_10 : decode cX7_skip 10 = .ok (.goto 16, 3) := by decide +kernel
theorem dX7_skip_13 : decode cX7_skip 13 = .ok (.aload_n 0, 1) := by decide +kernel
theorem dX7_skip_14 : decode cX7_skip 14 = .ok (.iload_n 1, 1) := by decide +kernel
theorem dX7_skip_15 : decode cX7_skip 15 = .ok (.invokevirtual 143, 3) := by decide +kernel
theorem dX7_skip_18 : decode cX7_skip 18 = .ok (.ifCond .eq 7, 3) := by decide +kernel
theorem dX7_skip_21 : decode cX7_skip 21 = .ok (.iconst 2, 1) := by decide +kernel
theorem dX7_skip_22 : decode cX7_skip 22 = .ok (.goto 4, 3) := by decide +kernel
theorem dX7_skip_25 : decode cX7_skip 25 = .ok (.iconst 0, 1) := by decide +kernel
theorem dX7_skip_26 : decode cX7_skip 26 = .ok (.invokevirtual 87, 3) := by decide +kernel
theorem dX7_skip_29 : decode cX7_skip 29 = .ok (.ifCond .eq 5, 3) := by decide +kernel
theorem dX7_skip_32 : decode cX7_skip 32 = .ok (.lconst 0, 1) := by decide +kernel
theorem dX7_skip_33 : decode cX7_skip 33 = .ok (.lreturn, 1) := by decide +kernel
theorem dX7_skip_34 : decode cX7_skip 34 = .ok (.aload_n 0, 1) := by decide +kernel
theorem dX7_skip_35 : decode cX7_skip 35 = .ok (.getfield 40, 3) := by decide +kernel
theorem dX7_skip_38 : decode cX7_skip 38 = .ok (.iload_n 1, 1) := by decide +kernel
theorem dX7_skip_39 : decode cX7_skip 39 = .ok (.iaload, 1) := by decide +kernel
theorem dX7_skip_40 : decode cX7_skip 40 = .ok (.aload_n 0, 1) := by decide +kernel
theorem dX7_skip_41 : decode cX7_skip 41 = .ok (.getfield 37, 3) := by decide +kernel
theorem dX7_skip_44 : decode cX7_skip 44 = .ok (.iload_n 1, 1) := by decide +kernel
theorem dX7_skip_45 : decode cX7_skip 45 = .ok (.iaload, 1) := by decide +kernel
theorem dX7_skip_46 : decode cX7_skip 46 = .ok (.isub, 1) := by decide +kernel
theorem dX7_skip_47 : decode cX7_skip 47 = .ok (.istore 4, 2) := by decide +kernel
theorem dX7_skip_49 : decode cX7_skip 49 = .ok (.lload_n 2, 1) := by decide +kernel
theorem dX7_skip_50 : decode cX7_skip 50 = .ok (.lconst 0, 1) := by decide +kernel
theorem dX7_skip_51 : decode cX7_skip 51 = .ok (.lcmp, 1) := by decide +kernel
theorem dX7_skip_52 : decode cX7_skip 52 = .ok (.ifCond .ge 7, 3) := by decide +kernel
theorem dX7_skip_55 : decode cX7_skip 55 = .ok (.iconst 0, 1) := by decide +kernel
theorem dX7_skip_56 : decode cX7_skip 56 = .ok (.goto 18, 3) := by decide +kernel
theorem dX7_skip_59 : decode cX7_skip 59 = .ok (.lload_n 2, 1) := by decide +kernel
theorem dX7_skip_60 : decode cX7_skip 60 = .ok (.iload 4, 2) := by decide +kernel
theorem dX7_skip_62 : decode cX7_skip 62 = .ok (.i2l, 1) := by decide +kernel
theorem dX7_skip_63 : decode cX7_skip 63 = .ok (.lcmp, 1) := by decide +kernel
theorem dX7_skip_64 : decode cX7_skip 64 = .ok (.ifCond .ge 8, 3) := by decide +kernel
theorem dX7_skip_67 : decode cX7_skip 67 = .ok (.lload_n 2, 1) := by decide +kernel
theorem dX7_skip_68 : decode cX7_skip 68 = .ok (.l2i, 1) := by decide +kernel
theorem dX7_skip_69 : decode cX7_skip 69 = .ok (.goto 5, 3) := by decide +kernel
theorem dX7_skip_72 : decode cX7_skip 72 = .ok (.iload 4, 2) := by decide +kernel
theorem dX7_skip_74 : decode cX7_skip 74 = .ok (.istore 5, 2) := by decide +kernel
theorem dX7_skip_76 : decode cX7_skip 76 = .ok (.aload_n 0, 1) := by decide +kernel
theorem dX7_skip_77 : decode cX7_skip 77 = .ok (.getfield 37, 3) := by decide +kernel
theorem dX7_skip_80 : decode cX7_skip 80 = .ok (.iload_n 1, 1) := by decide +kernel
theorem dX7_skip_81 : decode cX7_skip 81 = .ok (.dup2, 1) := by decide +kernel
theorem dX7_skip_82 : decode cX7_skip 82 = .ok (.iaload, 1) := by decide +kernel
theorem dX7_skip_83 : decode cX7_skip 83 = .ok (.iload 5, 2) := by decide +kernel
theorem dX7_skip_85 : decode cX7_skip 85 = .ok (.iadd, 1) := by decide +kernel
theorem dX7_skip_86 : decode cX7_skip 86 = .ok (.iastore, 1) := by decide +kernel
theorem dX7_skip_87 : decode cX7_skip 87 = .ok (.iload 5, 2) := by decide +kernel
theorem dX7_skip_89 : decode cX7_skip 89 = .ok (.i2l, 1) := by decide +kernel
theorem dX7_skip_90 : decode cX7_skip 90 = .ok (.lreturn, 1) := by decide +kernel
set_option maxRecDepth 20000 in
theorem ggX7_mark_X7_isOther : GoodIn wsX7_mark wsX7_isOther := goodIn_r _ [8] (by decide +kernel) (by decide +kernel)
set_option maxRecDepth 20000 in
theorem gX7_mark_X7_isOther : GoodIn wsX7_mark (wsV RX7 107 RX7 yX7_isOther wsX7_isOther) := goodIn_app (goodIn_of _ (by decide +kernel)) ggX7_mark_X7_isOther
set_option maxRecDepth 20000 in
theorem ggX7_mark_X7_isClosed : GoodIn wsX7_mark wsX7_isClosed := goodIn_ca (goodIn_r _ [12, 13, 14, 20, 21, 22, 23, 24, 25, 26, 27, 28, 29, 30, 31, 32, 33, 34, 35, 36, 37, 38, 39, 40] (by decide +kernel) (by decide +kernel)) (goodIn_sub (fun _ h => List.mem_cons_of_mem _ (List.mem_append_right _ h)) (by decide +kernel))
set_option maxRecDepth 20000 in
theorem gX7_mark_X7_isClosed : GoodIn wsX7_mark (wsV RX7 143 RX7 yX7_isClosed wsX7_isClosed) := goodIn_app (goodIn_of _ (by decide +kernel)) ggX7_mark_X7_isClosed
set_option maxRecDepth 20000 in
theorem ggX7_mark_X7_isWrong : GoodIn wsX7_mark wsX7_isWrong := goodIn_r _ [18, 19, 20, 21, 22, 23, 24, 25, 26, 27, 28, 29, 30, 31, 32, 33, 34, 35, 36, 37, 38, 39, 40] (by decide +kernel) (by decide +kernel)
set_option maxRecDepth 20000 in
theorem gX7_mark_X7_isWrong : GoodIn wsX7_mark (wsV RX7 87 RX7 yX7_isWrong wsX7_isWrong) := goodIn_app (goodIn_of _ (by decide +kernel)) ggX7_mark_X7_isWrong
theorem dX7_mark_0 : decode cX7_mark 0 = .ok (.aload_n 0, 1) := by decide +kernel
theorem dX7_mark_1 : decode cX7_mark 1 = .ok (.aload_n 0, 1) := by decide +kernel
theorem dX7_mark_2 : decode cX7_mark 2 = .ok (.iload_n 1, 1) := by decide +kernel
theorem dX7_mark_3 : decode cX7_mark 3 = .ok (.invokevirtual 107, 3) := by decide +kernel
theorem dX7_mark_6 : decode cX7_mark 6 = .ok (.ifCond .ne 7, 3) := by decide +kernel
theorem dX7_mark_9 : decode cX7_mark 9 = .ok (.iconst 1, 1) := by decide +kernel
theorem dX7_mark_10 : decode cX7_mark 10 = .ok (.goto 24, 3) := by decide +kernel
theorem dX7_mark_13 : decode cX7_mark 13 = .ok (.iload_n 2, 1) := by decide +kernel
theorem dX7_mark_14 : decode cX7_mark 14 = .ok (.ifCond .ge 7, 3) := by decide +kernel
theorem dX7_mark_17 : decode cX7_mark 17 = .ok (.iconst 2, 1) := by decide +kernel
theorem dX7_mark_18 : decode cX7_mark 18 = .ok (.goto 16, 3) := by decide +kernel
theorem dX7_mark_21 : decode cX7_mark 21 = .ok (.aload_n 0, 1) := by decide +kernel
theorem dX7_mark_22 : decode cX7_mark 22 = .ok (.iload_n 1, 1) := by decide +kernel
theorem dX7_mark_23 : decode cX7_mark 23 = .ok (.invokevirtual 143, 3) := by decide +kernel
theorem dX7_mark_26 : decode cX7_mark 26 = .ok (.ifCond .eq 7, 3) := by decide +kernel
theorem dX7_mark_29 : decode cX7_mark 29 = .ok (.iconst 3, 1) := by decide +kernel
theorem dX7_mark_30 : decode cX7_mark 30 = .ok (.goto 4, 3) := by decide +kernel
theorem dX7_mark_33 : decode cX7_mark 33 = .ok (.iconst 0, 1) := by decide +kernel
theorem dX7_mark_34 : decode cX7_mark 34 = .ok (.invokevirtual 87, 3) := by decide +kernel
theorem dX7_mark_37 : decode cX7_mark 37 = .ok (.ifCond .eq 5, 3) := by decide +kernel
theorem dX7_mark_40 : decode cX7_mark 40 = .ok (.iconst 0, 1) := by decide +kernel
theorem dX7_mark_41 : decode cX7_mark 41 = .ok (.ireturn, 1) := by decide +kernel
theorem dX7_mark_42 : decode cX7_mark 42 = .ok (.aload_n 0, 1) := by decide +kernel
theorem dX7_mark_43 : decode cX7_mark 43 = .ok (.getfield 43, 3) := by decide +kernel
theorem dX7_mark_46 : decode cX7_mark 46 = .ok (.iload_n 1, 1) := by decide +kernel
theorem dX7_mark_47 : decode cX7_mark 47 = .ok (.aload_n 0, 1) := by decide +kernel
theorem dX7_mark_48 : decode cX7_mark 48 = .ok (.getfield 37, 3) := by decide +kernel
theorem dX7_mark_51 : decode cX7_mark 51 = .ok (.iload_n 1, 1) := by decide +kernel
theorem dX7_mark_52 : decode cX7_mark 52 = .ok (.iaload, 1) := by decide +kernel
theorem dX7_mark_53 : decode cX7_mark 53 = .ok (.iastore, 1) := by decide +kernel
theorem dX7_mark_54 : decode cX7_mark 54 = .ok (.aload_n 0, 1) := by decide +kernel
theorem dX7_mark_55 : decode cX7_mark 55 = .ok (.getfield 40, 3) := by decide +kernel
theorem dX7_mark_58 : decode cX7_mark 58 = .ok (.iload_n 1, 1) := by decide +kernel
theorem dX7_mark_59 : decode cX7_mark 59 = .ok (.iaload, 1) := by decide +kernel
theorem dX7_mark_60 : decode cX7_mark 60 = .ok (.aload_n 0, 1) := by decide +kernel
theorem dX7_mark_61 : decode cX7_mark 61 = .ok (.getfield 37, 3) := by decide +kernel
theorem dX7_mark_64 : decode cX7_mark 64 = .ok (.iload_n 1, 1) := by decide +kernel
theorem dX7_mark_65 : decode cX7_mark 65 = .ok (.iaload, 1) := by decide +kernel
theorem dX7_mark_66 : decode cX7_mark 66 = .ok (.isub, 1) := by decide +kernel
theorem dX7_mark_67 : decode cX7_mark 67 = .ok (.ireturn, 1) := by decide +kernel
set_option maxRecDepth 20000 in
theorem ggX7_back_X7_isOther : GoodIn wsX7_back wsX7_isOther := goodIn_r _ [8] (by decide +kernel) (by decide +kernel)
set_option maxRecDepth 20000 in
theorem gX7_back_X7_isOther : GoodIn wsX7_back (wsV RX7 107 RX7 yX7_isOther wsX7_isOther) := goodIn_app (goodIn_of _ (by decide +kernel)) ggX7_back_X7_isOther
set_option maxRecDepth 20000 in
theorem ggX7_back_X7_isClosed : GoodIn wsX7_back wsX7_isClosed := goodIn_ca (goodIn_r _ [12, 13, 14, 20, 21, 22, 23, 24, 25, 26, 27, 28, 29, 30, 31, 32, 33, 34, 35, 36, 37, 38, 39, 40] (by decide +kernel) (by decide +kernel)) (goodIn_sub (fun _ h => List.mem_cons_of_mem _ (List.mem_append_right _ h)) (by decide +kernel))
set_option maxRecDepth 20000 in
theorem gX7_back_X7_isClosed : GoodIn wsX7_back (wsV RX7 143 RX7 yX7_isClosed wsX7_isClosed) := goodIn_app (goodIn_of _ (by decide +kernel)) ggX7_back_X7_isClosed
set_option maxRecDepth 20000 in
theorem ggX7_back_X7_isWrong : GoodIn wsX7_back wsX7_isWrong := goodIn_r _ [18, 19, 20, 21, 22, 23, 24, 25, 26, 27, 28, 29, 30, 31, 32, 33, 34, 35, 36, 37, 38, 39, 40] (by decide +kernel) (by decide +kernel)
set_option maxRecDepth 20000 in
theorem gX7_back_X7_isWrong : GoodIn wsX7_back (wsV RX7 87 RX7 yX7_isWrong wsX7_isWrong) := goodIn_app (goodIn_of _ (by decide +kernel)) ggX7_back_X7_isWrong
theorem dX7_back_0 : decode cX7_back 0 = .ok (.aload_n 0, 1) := by decide +kernel
theorem dX7_back_1 : decode cX7_back 1 = .ok (.aload_n 0, 1) := by decide +kernel
theorem dX7_back_2 : decode cX7_back 2 = .ok (.iload_n 1, 1) := by decide +kernel
theorem dX7_back_3 : decode cX7_back 3 = .ok (.invokevirtual 107, 3) := by decide +kernel
theorem dX7_back_6 : decode cX7_back 6 = .ok (.ifCond .ne 7, 3) := by decide +kernel
theorem dX7_back_9 : decode cX7_back 9 = .ok (.iconst 1, 1) := by decide +kernel
theorem dX7_back_10 : decode cX7_back 10 = .ok (.goto 16, 3) := by decide +kernel
theorem dX7_back_13 : decode cX7_back 13 = .ok (.aload_n 0, 1) := by decide +kernel
theorem dX7_back_14 : decode cX7_back 14 = .ok (.iload_n 1, 1) := by decide +kernel
theorem dX7_back_15 : decode cX7_back 15 = .ok (.invokevirtual 143, 3) := by decide +kernel
theorem dX7_back_18 : decode cX7_back 18 = .ok (.ifCond .eq 7, 3) := by decide +kernel
theorem dX7_back_21 : decode cX7_back 21 = .ok (.iconst 2, 1) := by decide +kernel
theorem dX7_back_22 : decode cX7_back 22 = .ok (.goto 4, 3) := by decide +kernel
theorem dX7_back_25 : decode cX7_back 25 = .ok (.iconst 0, 1) := by decide +kernel
theorem dX7_back_26 : decode cX7_back 26 = .ok (.invokevirtual 87, 3) := by decide +kernel
theorem dX7_back_29 : decode cX7_back 29 = .ok (.ifCond .eq 5, 3) := by decide +kernel
theorem dX7_back_32 : decode cX7_back 32 = .ok (.iconst 0, 1) := by decide +kernel
theorem dX7_back_33 : decode cX7_back 33 = .ok (.ireturn, 1) := by decide +kernel
theorem dX7_back_34 : decode cX7_back 34 = .ok (.aload_n 0, 1) := by decide +kernel
theorem dX7_back_35 : decode cX7_back 35 = .ok (.getfield 37, 3) := by decide +kernel
theorem dX7_back_38 : decode cX7_back 38 = .ok (.iload_n 1, 1) := by decide +kernel
theorem dX7_back_39 : decode cX7_back 39 = .ok (.aload_n 0, 1) := by decide +kernel
theorem dX7_back_40 : decode cX7_back 40 = .ok (.getfield 43, 3) := by decide +kernel
theorem dX7_back_43 : decode cX7_back 43 = .ok (.iload_n 1, 1) := by decide +kernel
theorem dX7_back_44 : decode cX7_back 44 = .ok (.iaload, 1) := by decide +kernel
theorem dX7_back_45 : decode cX7_back 45 = .ok (.iastore, 1) := by decide +kernel
theorem dX7_back_46 : decode cX7_back 46 = .ok (.aload_n 0, 1) := by decide +kernel
theorem dX7_back_47 : decode cX7_back 47 = .ok (.getfield 40, 3) := by decide +kernel
theorem dX7_back_50 : decode cX7_back 50 = .ok (.iload_n 1, 1) := by decide +kernel
theorem dX7_back_51 : decode cX7_back 51 = .ok (.iaload, 1) := by decide +kernel
theorem dX7_back_52 : decode cX7_back 52 = .ok (.aload_n 0, 1) := by decide +kernel
theorem dX7_back_53 : decode cX7_back 53 = .ok (.getfield 37, 3) := by decide +kernel
theorem dX7_back_56 : decode cX7_back 56 = .ok (.iload_n 1, 1) := by decide +kernel
theorem dX7_back_57 : decode cX7_back 57 = .ok (.iaload, 1) := by decide +kernel
theorem dX7_back_58 : decode cX7_back 58 = .ok (.isub, 1) := by decide +kernel
theorem dX7_back_59 : decode cX7_back 59 = .ok (.ireturn, 1) := by decide +kernel
theorem dX7_begins_0 : decode cX7_begins 0 = .ok (.aload_n 0, 1) := by decide +kernel
theorem dX7_begins_1 : decode cX7_begins 1 = .ok (.getfield 53, 3) := by decide +kernel
theorem dX7_begins_4 : decode cX7_begins 4 = .ok (.iconst 3, 1) := by decide +kernel
theorem dX7_begins_5 : decode cX7_begins 5 = .ok (.iload_n 1, 1) := by decide +kernel
theorem dX7_begins_6 : decode cX7_begins 6 = .ok (.imul, 1) := by decide +kernel
theorem dX7_begins_7 : decode cX7_begins 7 = .ok (.iload_n 2, 1) := by decide +kernel
theorem dX7_begins_8 : decode cX7_begins 8 = .ok (.iadd, 1) := by decide +kernel
theorem dX7_begins_9 : decode cX7_begins 9 = .ok (.aload_n 0, 1) := by decide +kernel
theorem dX7_begins_10 : decode cX7_begins 10 = .ok (.getfield 25, 3) := by decide +kernel
theorem dX7_begins_13 : decode cX7_begins 13 = .ok (.iload_n 3, 1) := by decide +kernel
theorem dX7_begins_14 : decode cX7_begins 14 = .ok (.iaload, 1) := by decide +kernel
theorem dX7_begins_15 : decode cX7_begins 15 = .ok (.iastore, 1) := by decide +kernel
theorem dX7_begins_16 : decode cX7_begins 16 = .ok (.aload_n 0, 1) := by decide +kernel
theorem dX7_begins_17 : decode cX7_begins 17 = .ok (.getfield 56, 3) := by decide +kernel
theorem dX7_begins_20 : decode cX7_begins 20 = .ok (.iconst 3, 1) := by decide +kernel
theorem dX7_begins_21 : decode cX7_begins 21 = .ok (.iload_n 1, 1) := by decide +kernel
theorem dX7_begins_22 : decode cX7_begins 22 = .ok (.imul, 1) := by decide +kernel
theorem dX7_begins_23 : decode cX7_begins 23 = .ok (.iload_n 2, 1) := by decide +kernel
theorem dX7_begins_24 : decode cX7_begins 24 = .ok (.iadd, 1) := by decide +kernel
theorem dX7_begins_25 : decode cX7_begins 25 = .ok (.iconst 0, 1) := by decide +kernel
theorem dX7_begins_26 : decode cX7_begins 26 = .ok (.iastore, 1) := by decide +kernel
theorem dX7_begins_27 : decode cX7_begins 27 = .ok (.aload_n 0, 1) := by decide +kernel
theorem dX7_begins_28 : decode cX7_begins 28 = .ok (.getfield 62, 3) := by decide +kernel
theorem dX7_begins_31 : decode cX7_begins 31 = .ok (.iload_n 1, 1) := by decide +kernel
theorem dX7_begins_32 : decode cX7_begins 32 = .ok (.dup2, 1) := by decide +kernel
theorem dX7_begins_33 : decode cX7_begins 33 = .ok (.iaload, 1) := by decide +kernel
theorem dX7_begins_34 : decode cX7_begins 34 = .ok (.aload_n 0, 1) := by decide +kernel
theorem dX7_begins_35 : decode cX7_begins 35 = .ok (.getfield 22, 3) := by decide +kernel
theorem dX7_begins_38 : decode cX7_begins 38 = .ok (.aload_n 0, 1) := by decide +kernel
theorem dX7_begins_39 : decode cX7_begins 39 = .ok (.getfield 25, 3) := by decide +kernel
theorem dX7_begins_42 : decode cX7_begins 42 = .ok (.iload_n 3, 1) := by decide +kernel
theorem dX7_begins_43 : decode cX7_begins 43 = .ok (.iaload, 1) := by decide +kernel
theorem dX7_begins_44 : decode cX7_begins 44 = .ok (.iaload, 1) := by decide +kernel
theorem dX7_begins_45 : decode cX7_begins 45 = .ok (.iadd, 1) := by decide +kernel
theorem dX7_begins_46 : decode cX7_begins 46 = .ok (.iastore, 1) := by decide +kernel
theorem dX7_begins_47 : decode cX7_begins 47 = .ok (.return_, 1) := by decide +kernel
theorem dX7_anew_0 : decode cX7_anew 0 = .ok (.iconst 0, 1) := by decide +kernel
theorem dX7_anew_1 : decode cX7_anew 1 = .ok (.istore_n 3, 1) := by decide +kernel
theorem dX7_anew_2 : decode cX7_anew 2 = .ok (.iload_n 3, 1) := by decide +kernel
theorem dX7_anew_3 : decode cX7_anew 3 = .ok (.iconst 3, 1) := by decide +kernel
theorem dX7_anew_4 : decode cX7_anew 4 = .ok (.if_icmp .ge 20, 3) := by decide +kernel
theorem dX7_anew_7 : decode cX7_anew 7 = .ok (.aload_n 0, 1) := by decide +kernel
theorem dX7_anew_8 : decode cX7_anew 8 = .ok (.getfield 53, 3) := by decide +kernel
theorem dX7_anew_11 : decode cX7_anew 11 = .ok (.iconst 3, 1) := by decide +kernel
theorem dX7_anew_12 : decode cX7_anew 12 = .ok (.iload_n 1, 1) := by decide +kernel
theorem dX7_anew_13 : decode cX7_anew 13 = .ok (.imul, 1) := by decide +kernel
theorem dX7_anew_14 : decode cX7_anew 14 = .ok (.iload_n 3, 1) := by decide +kernel
theorem dX7_anew_15 : decode cX7_anew 15 = .ok (.iadd, 1) := by decide +kernel
theorem dX7_anew_16 : decode cX7_anew 16 = .ok (.iconst (-1), 1) := by decide +kernel
theorem dX7_anew_17 : decode cX7_anew 17 = .ok (.iastore, 1) := by decide +kernel
theorem dX7_anew_18 : decode cX7_anew 18 = .ok (.iinc 3 1, 3) := by decide +kernel

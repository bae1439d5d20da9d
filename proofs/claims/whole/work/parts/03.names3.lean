theorem dX6_pourOver_22 : decode cX6_pourOver 22 = .ok (.ldc 122, 2) := by decide +kernel
theorem dX6_pourOver_24 : decode cX6_pourOver 24 = .ok (.invokespecial 68, 3) := by decide +kernel
theorem dX6_pourOver_27 : decode cX6_pourOver 27 = .ok (.athrow, 1) := by decide +kernel
theorem dX6_pourOver_28 : decode cX6_pourOver 28 = .ok (.aload_n 3, 1) := by decide +kernel
theorem dX6_pourOver_29 : decode cX6_pourOver 29 = .ok (.aload 4, 2) := by decide +kernel
theorem dX6_pourOver_31 : decode cX6_pourOver 31 = .ok (.invokestatic 118, 3) := by decide +kernel
theorem dX6_pourOver_34 : decode cX6_pourOver 34 = .ok (.ireturn, 1) := by decide +kernel
set_option maxRecDepth 20000 in
theorem ggX6_areLike_X6_textWriterAt : GoodIn wsX6_areLike wsX6_textWriterAt := goodIn_ca (goodIn_r _ [5, 6, 7, 8, 21, 22, 23, 24, 25, 26, 27] (by decide +kernel) (by decide +kernel)) (goodIn_sub (fun _ h => List.mem_cons_of_mem _ (List.mem_append_left _ (List.mem_append_right _ h))) (by decide +kernel))
set_option maxRecDepth 20000 in
theorem gX6_areLike_X6_textWriterAt : GoodIn wsX6_areLike (wsV RX6 91 RX6 yX6_textWriterAt wsX6_textWriterAt) := goodIn_app (goodIn_of _ (by decide +kernel)) ggX6_areLike_X6_textWriterAt
set_option maxRecDepth 20000 in
theorem ggX6_areLike_X6_arrayWriterAt : GoodIn wsX6_areLike wsX6_arrayWriterAt := goodIn_ca (goodIn_r _ [12, 6, 7, 13, 21, 22, 23, 24, 25, 26, 27] (by decide +kernel) (by decide +kernel)) (goodIn_sub (fun _ h => List.mem_cons_of_mem _ (List.mem_append_left _ (List.mem_append_right _ h))) (by decide +kernel))
set_option maxRecDepth 20000 in
theorem gX6_areLike_X6_arrayWriterAt : GoodIn wsX6_areLike (wsV RX6 115 RX6 yX6_arrayWriterAt wsX6_arrayWriterAt) := goodIn_app (goodIn_of _ (by decide +kernel)) ggX6_areLike_X6_arrayWriterAt
set_option maxRecDepth 20000 in
theorem ggX6_areLike_X4_hasSameAs : GoodIn wsX6_areLike wsX4_hasSameAs := goodIn_ca (goodIn_r _ [18, 19, 20, 28, 29] (by decide +kernel) (by decide +kernel)) (goodIn_sub (fun _ h => List.mem_cons_of_mem _ (List.mem_append_right _ h)) (by decide +kernel))
set_option maxRecDepth 20000 in
theorem gX6_areLike_X4_hasSameAs : GoodIn wsX6_areLike (wsV RX6 124 RX4 yX4_hasSameAs wsX4_hasSameAs) := goodIn_app (goodIn_of _ (by decide +kernel)) ggX6_areLike_X4_hasSameAs
theorem dX6_areLike_0 : decode cX6_areLike 0 = .ok (.aload_n 0, 1) := by decide +kernel
theorem dX6_areLike_1 : decode cX6_areLike 1 = .ok (.iload_n 1, 1) := by decide +kernel
theorem dX6_areLike_2 : decode cX6_areLike 2 = .ok (.invokevirtual 91, 3) := by decide +kernel
theorem dX6_areLike_5 : decode cX6_areLike 5 = .ok (.aload_n 0, 1) := by decide +kernel
theorem dX6_areLike_6 : decode cX6_areLike 6 = .ok (.iload_n 2, 1) := by decide +kernel
theorem dX6_areLike_7 : decode cX6_areLike 7 = .ok (.invokevirtual 115, 3) := by decide +kernel
theorem dX6_areLike_10 : decode cX6_areLike 10 = .ok (.invokevirtual 124, 3) := by decide +kernel
theorem dX6_areLike_13 : decode cX6_areLike 13 = .ok (.ireturn, 1) := by decide +kernel
set_option maxRecDepth 20000 in
theorem ggX6_open_X6_readerAt : GoodIn wsX6_open wsX6_readerAt := goodIn_ca (goodIn_r _ [6, 7, 8, 9, 45, 46, 47, 48, 49, 50, 51] (by decide +kernel) (by decide +kernel)) (goodIn_sub (fun _ h => List.mem_cons_of_mem _ (List.mem_append_left _ (List.mem_append_right _ h))) (by decide +kernel))
set_option maxRecDepth 20000 in
theorem gX6_open_X6_readerAt : GoodIn wsX6_open (wsV RX6 128 RX6 yX6_readerAt wsX6_readerAt) := goodIn_app (goodIn_of _ (by decide +kernel)) ggX6_open_X6_readerAt
set_option maxRecDepth 20000 in
theorem ggX6_open_X6_signRowAt : GoodIn wsX6_open wsX6_signRowAt := goodIn_ca (goodIn_r _ [13, 7, 8, 14, 45, 46, 47, 48, 49, 50, 51] (by decide +kernel) (by decide +kernel)) (goodIn_sub (fun _ h => List.mem_cons_of_mem _ (List.mem_append_left _ (List.mem_append_right _ h))) (by decide +kernel))
set_option maxRecDepth 20000 in
theorem gX6_open_X6_signRowAt : GoodIn wsX6_open (wsV RX6 56 RX6 yX6_signRowAt wsX6_signRowAt) := goodIn_app (goodIn_of _ (by decide +kernel)) ggX6_open_X6_signRowAt
set_option maxRecDepth 20000 in
theorem ggX6_open_X6_requirePlaces : GoodIn wsX6_open wsX6_requirePlaces := goodIn_ca (goodIn_r _ [17, 7, 8] (by decide +kernel) (by decide +kernel)) (goodIn_sub (fun _ h => List.mem_cons_of_mem _ (List.mem_append_left _ (List.mem_append_right _ h))) (by decide +kernel))
set_option maxRecDepth 20000 in
theorem gX6_open_X6_requirePlaces : GoodIn wsX6_open (va_wsS RX6 79 yX6_requirePlaces wsX6_requirePlaces) := goodIn_app (goodIn_of _ (by decide +kernel)) ggX6_open_X6_requirePlaces
set_option maxRecDepth 20000 in
theorem ggX6_open_X6_requireWanted : GoodIn wsX6_open wsX6_requireWanted := goodIn_ca (goodIn_r _ [20, 21, 22, 23] (by decide +kernel) (by decide +kernel)) (goodIn_sub (fun _ h => List.mem_cons_of_mem _ (List.mem_append_right _ h)) (by decide +kernel))
set_option maxRecDepth 20000 in
theorem gX6_open_X6_requireWanted : GoodIn wsX6_open (va_wsS RX6 132 yX6_requireWanted wsX6_requireWanted) := goodIn_app (goodIn_of _ (by decide +kernel)) ggX6_open_X6_requireWanted
set_option maxRecDepth 20000 in
theorem ggX6_open_X2_openOn : GoodIn wsX6_open wsX2_openOn := goodIn_r _ [28, 29, 30, 31, 32, 33, 34, 35, 36, 37, 38, 39, 52, 53, 54, 55, 56, 57, 44] (by decide +kernel) (by decide +kernel)
set_option maxRecDepth 20000 in
theorem gX6_open_X2_openOn : GoodIn wsX6_open (wsV RX6 136 RX2 yX2_openOn wsX2_openOn) := goodIn_app (goodIn_of _ (by decide +kernel)) ggX6_open_X2_openOn
set_option maxRecDepth 20000 in
theorem ggX6_open_X2_countRest : GoodIn wsX6_open wsX2_countRest := goodIn_r _ [43, 36, 30, 52, 53, 54, 55, 56, 57] (by decide +kernel) (by decide +kernel)
set_option maxRecDepth 20000 in
theorem gX6_open_X2_countRest : GoodIn wsX6_open (wsV RX6 140 RX2 yX2_countRest wsX2_countRest) := goodIn_app (goodIn_of _ (by decide +kernel)) ggX6_open_X2_countRest
theorem dX6_open_0 : decode cX6_open 0 = .ok (.aload_n 0, 1) := by decide +kernel
theorem dX6_open_1 : decode cX6_open 1 = .ok (.iload_n 1, 1) := by decide +kernel
theorem dX6_open_2 : decode cX6_open 2 = .ok (.invokevirtual 128, 3) := by decide +kernel
theorem dX6_open_5 : decode cX6_open 5 = .ok (.astore 5, 2) := by decide +kernel
theorem dX6_open_7 : decode cX6_open 7 = .ok (.aload_n 0, 1) := by decide +kernel
theorem dX6_open_8 : decode cX6_open 8 = .ok (.iload_n 2, 1) := by decide +kernel
theorem dX6_open_9 : decode cX6_open 9 = .ok (.invokevirtual 56, 3) := by decide +kernel
theorem dX6_open_12 : decode cX6_open 12 = .ok (.astore 6, 2) := by decide +kernel
theorem dX6_open_14 : decode cX6_open 14 = .ok (.iload_n 3, 1) := by decide +kernel
theorem dX6_open_15 : decode cX6_open 15 = .ok (.iconst 0, 1) := by decide +kernel
theorem dX6_open_16 : decode cX6_open 16 = .ok (.aload 6, 2) := by decide +kernel
theorem dX6_open_18 : decode cX6_open 18 = .ok (.getfield 60, 3) := by decide +kernel
theorem dX6_open_21 : decode cX6_open 21 = .ok (.arraylength, 1) := by decide +kernel
theorem dX6_open_22 : decode cX6_open 22 = .ok (.invokestatic 79, 3) := by decide +kernel
theorem dX6_open_25 : decode cX6_open 25 = .ok (.iload 4, 2) := by decide +kernel
theorem dX6_open_27 : decode cX6_open 27 = .ok (.i2l, 1) := by decide +kernel
theorem dX6_open_28 : decode cX6_open 28 = .ok (.invokestatic 132, 3) := by decide +kernel
theorem dX6_open_31 : decode cX6_open 31 = .ok (.aload 5, 2) := by decide +kernel
theorem dX6_open_33 : decode cX6_open 33 = .ok (.aload 6, 2) := by decide +kernel
theorem dX6_open_35 : decode cX6_open 35 = .ok (.iload_n 3, 1) := by decide +kernel
theorem dX6_open_36 : decode cX6_open 36 = .ok (.iload 4, 2) := by decide +kernel
theorem dX6_open_38 : decode cX6_open 38 = .ok (.invokevirtual 136, 3) := by decide +kernel
theorem dX6_open_41 : decode cX6_open 41 = .ok (.aload 5, 2) := by decide +kernel
theorem dX6_open_43 : decode cX6_open 43 = .ok (.invokevirtual 140, 3) := by decide +kernel
theorem dX6_open_46 : decode cX6_open 46 = .ok (.ireturn, 1) := by decide +kernel
set_option maxRecDepth 20000 in
theorem ggX6_openAll_X6_readerAt : GoodIn wsX6_openAll wsX6_readerAt := goodIn_ca (goodIn_r _ [6, 7, 8, 9, 36, 37, 38, 39, 40, 41, 42] (by decide +kernel) (by decide +kernel)) (goodIn_sub (fun _ h => List.mem_cons_of_mem _ (List.mem_append_right _ h)) (by decide +kernel))
set_option maxRecDepth 20000 in
theorem gX6_openAll_X6_readerAt : GoodIn wsX6_openAll (wsV RX6 128 RX6 yX6_readerAt wsX6_readerAt) := goodIn_app (goodIn_of _ (by decide +kernel)) ggX6_openAll_X6_readerAt
set_option maxRecDepth 20000 in
theorem ggX6_openAll_X6_signRowAt : GoodIn wsX6_openAll wsX6_signRowAt := goodIn_ca (goodIn_r _ [13, 7, 8, 14, 36, 37, 38, 39, 40, 41, 42] (by decide +kernel) (by decide +kernel)) (goodIn_sub (fun _ h => List.mem_cons_of_mem _ (List.mem_append_right _ h)) (by decide +kernel))
set_option maxRecDepth 20000 in
theorem gX6_openAll_X6_signRowAt : GoodIn wsX6_openAll (wsV RX6 56 RX6 yX6_signRowAt wsX6_signRowAt) := goodIn_app (goodIn_of _ (by decide +kernel)) ggX6_openAll_X6_signRowAt
set_option maxRecDepth 20000 in
theorem ggX6_openAll_X2_openOn : GoodIn wsX6_openAll wsX2_openOn := goodIn_r _ [19, 20, 21, 22, 23, 24, 25, 26, 27, 28, 29, 30, 43, 44, 45, 46, 47, 48, 35] (by decide +kernel) (by decide +kernel)
set_option maxRecDepth 20000 in
theorem gX6_openAll_X2_openOn : GoodIn wsX6_openAll (wsV RX6 136 RX2 yX2_openOn wsX2_openOn) := goodIn_app (goodIn_of _ (by decide +kernel)) ggX6_openAll_X2_openOn
set_option maxRecDepth 20000 in
theorem ggX6_openAll_X2_countRest : GoodIn wsX6_openAll wsX2_countRest := goodIn_r _ [34, 27, 21, 43, 44, 45, 46, 47, 48] (by decide +kernel) (by decide +kernel)
set_option maxRecDepth 20000 in
theorem gX6_openAll_X2_countRest : GoodIn wsX6_openAll (wsV RX6 140 RX2 yX2_countRest wsX2_countRest) := goodIn_app (goodIn_of _ (by decide +kernel)) ggX6_openAll_X2_countRest
theorem dX6_openAll_0 : decode cX6_openAll 0 = .ok (.aload_n 0, 1) := by decide +kernel
theorem dX6_openAll_1 : decode cX6_openAll 1 = .ok (.iload_n 1, 1) := by decide +kernel
theorem dX6_openAll_2 : decode cX6_openAll 2 = .ok (.invokevirtual 128, 3) := by decide +kernel
theorem dX6_openAll_5 : decode cX6_openAll 5 = .ok (.astore_n 3, 1) := by decide +kernel
theorem dX6_openAll_6 : decode cX6_openAll 6 = .ok (.aload_n 0, 1) := by decide +kernel
theorem dX6_openAll_7 : decode cX6_openAll 7 = .ok (.iload_n 2, 1) := by decide +kernel
theorem dX6_openAll_8 : decode cX6_openAll 8 = .ok (.invokevirtual 56, 3) := by decide +kernel
theorem dX6_openAll_11 : decode cX6_openAll 11 = .ok (.astore 4, 2) := by decide +kernel
theorem dX6_openAll_13 : decode cX6_openAll 13 = .ok (.aload_n 3, 1) := by decide +kernel
theorem dX6_openAll_14 : decode cX6_openAll 14 = .ok (.aload 4, 2) := by decide +kernel
theorem dX6_openAll_16 : decode cX6_openAll 16 = .ok (.iconst 0, 1) := by decide +kernel
theorem dX6_openAll_17 : decode cX6_openAll 17 = .ok (.aload 4, 2) := by decide +kernel
theorem dX6_openAll_19 : decode cX6_openAll 19 = .ok (.getfield 60, 3) := by decide +kernel
theorem dX6_openAll_22 : decode cX6_openAll 22 = .ok (.arraylength, 1) := by decide +kernel
theorem dX6_openAll_23 : decode cX6_openAll 23 = .ok (.invokevirtual 136, 3) := by decide +kernel
theorem dX6_openAll_26 : decode cX6_openAll 26 = .ok (.aload_n 3, 1) := by decide +kernel
theorem dX6_openAll_27 : decode cX6_openAll 27 = .ok (.invokevirtual 140, 3) := by decide +kernel
theorem dX6_openAll_30 : decode cX6_openAll 30 = .ok (.ireturn, 1) := by decide +kernel
set_option maxRecDepth 20000 in
theorem ggX6_shut_X6_readerAt : GoodIn wsX6_shut wsX6_readerAt := goodIn_ca (goodIn_r _ [9, 10, 11, 12, 26, 27, 28, 29, 30, 31, 32] (by decide +kernel) (by decide +kernel)) (goodIn_sub (fun _ h => List.mem_cons_of_mem _ (List.mem_append_right _ h)) (by decide +kernel))
set_option maxRecDepth 20000 in
theorem gX6_shut_X6_readerAt : GoodIn wsX6_shut (wsV RX6 128 RX6 yX6_readerAt wsX6_readerAt) := goodIn_app (goodIn_of _ (by decide +kernel)) ggX6_shut_X6_readerAt
set_option maxRecDepth 20000 in
theorem ggX6_shut_X2_countRest : GoodIn wsX6_shut wsX2_countRest := goodIn_r _ [17, 18, 19, 20, 21, 22, 23, 24, 25] (by decide +kernel) (by decide +kernel)
set_option maxRecDepth 20000 in
theorem gX6_shut_X2_countRest : GoodIn wsX6_shut (wsV RX6 140 RX2 yX2_countRest wsX2_countRest) := goodIn_app (goodIn_of _ (by decide +kernel)) ggX6_shut_X2_countRest
theorem dX6_shut_0 : decode cX6_shut 0 = .ok (.aload_n 0, 1) := by decide +kernel
theorem dX6_shut_1 : decode cX6_shut 1 = .ok (.iload_n 1, 1) := by decide +kernel
theorem dX6_shut_2 : decode cX6_shut 2 = .ok (.invokevirtual 128, 3) := by decide +kernel
theorem dX6_shut_5 : decode cX6_shut 5 = .ok (.astore_n 2, 1) := by decide +kernel
theorem dX6_shut_6 : decode cX6_shut 6 = .ok (.aload_n 2, 1) := by decide +kernel
theorem dX6_shut_7 : decode cX6_shut 7 = .ok (.getfield 143, 3) := by decide +kernel
theorem dX6_shut_10 : decode cX6_shut 10 = .ok (.ifCond .ne 13, 3) := by decide +kernel
theorem dX6_shut_13 : decode cX6_shut 13 = .ok (.new 147, 3) := by decide +kernel
theorem dX6_shut_16 : decode cX6_shut 16 = .ok (.dup, 1) := by decide +kernel
theorem dX6_shut_17 : decode cX6_shut 17 = .ok (.ldc 149, 2) := by decide +kernel
theorem dX6_shut_19 : decode cX6_shut 19 = .ok (.invokespecial 151, 3) := by decide +kernel
theorem dX6_shut_22 : decode cX6_shut 22 = .ok (.athrow, 1) := by decide +kernel
theorem dX6_shut_23 : decode cX6_shut 23 = .ok (.aload_n 2, 1) := by decide +kernel
theorem dX6_shut_24 : decode cX6_shut 24 = .ok (.getfield 152, 3) := by decide +kernel
theorem dX6_shut_27 : decode cX6_shut 27 = .ok (.ifCond .eq 7, 3) := by decide +kernel
theorem dX6_shut_30 : decode cX6_shut 30 = .ok (.iconst 0, 1) := by decide +kernel
theorem dX6_shut_31 : decode cX6_shut 31 = .ok (.goto 7, 3) := by decide +kernel
theorem dX6_shut_34 : decode cX6_shut 34 = .ok (.aload_n 2, 1) := by decide +kernel
theorem dX6_shut_35 : decode cX6_shut 35 = .ok (.invokevirtual 140, 3) := by decide +kernel
theorem dX6_shut_38 : decode cX6_shut 38 = .ok (.istore_n 3, 1) := by decide +kernel
theorem dX6_shut_39 : decode cX6_shut 39 = .ok (.aload_n 2, 1) := by decide +kernel
theorem dX6_shut_40 : decode cX6_shut 40 = .ok (.iconst 1, 1) := by decide +kernel
theorem dX6_shut_41 : decode cX6_shut 41 = .ok (.putfield 152, 3) := by decide +kernel
theorem dX6_shut_44 : decode cX6_shut 44 = .ok (.iload_n 3, 1) := by decide +kernel
theorem dX6_shut_45 : decode cX6_shut 45 = .ok (.ireturn, 1) := by decide +kernel
set_option maxRecDepth 20000 in
theorem ggX6_read_X6_openReaderAt : GoodIn wsX6_read wsX6_openReaderAt := goodIn_ca (goodIn_ca (goodIn_r _ [5, 6, 7, 8, 9, 10, 11, 12, 4, 13, 14, 15, 16, 26, 27, 28, 29, 30, 31, 32, 33, 34, 35, 36, 37, 38] (by decide +kernel) (by decide +kernel)) (goodIn_sub (fun _ h => List.mem_cons_of_mem _ (List.mem_append_left _ (List.mem_append_left _ (List.mem_append_right _ h)))) (by decide +kernel))) (goodIn_sub (fun _ h => List.mem_cons_of_mem _ (List.mem_append_left _ (List.mem_append_right _ h))) (by decide +kernel))
set_option maxRecDepth 20000 in
theorem gX6_read_X6_openReaderAt : GoodIn wsX6_read (wsV RX6 155 RX6 yX6_openReaderAt wsX6_openReaderAt) := goodIn_app (goodIn_of _ (by decide +kernel)) ggX6_read_X6_openReaderAt
set_option maxRecDepth 20000 in
theorem ggX6_read_X2_readOne : GoodIn wsX6_read wsX2_readOne := goodIn_ca (goodIn_r _ [21, 22, 23, 24, 25, 26, 27, 28, 29, 30, 31, 39] (by decide +kernel) (by decide +kernel)) (goodIn_sub (fun _ h => List.mem_cons_of_mem _ (List.mem_append_right _ h)) (by decide +kernel))
set_option maxRecDepth 20000 in
theorem gX6_read_X2_readOne : GoodIn wsX6_read (wsV RX6 158 RX2 yX2_readOne wsX2_readOne) := goodIn_app (goodIn_of _ (by decide +kernel)) ggX6_read_X2_readOne
theorem dX6_read_0 : decode cX6_read 0 = .ok (.aload_n 0, 1) := by decide +kernel
theorem dX6_read_1 : decode cX6_read 1 = .ok (.iload_n 1, 1) := by decide +kernel
theorem dX6_read_2 : decode cX6_read 2 = .ok (.invokevirtual 155, 3) := by decide +kernel
theorem dX6_read_5 : decode cX6_read 5 = .ok (.invokevirtual 158, 3) := by decide +kernel
theorem dX6_read_8 : decode cX6_read 8 = .ok (.ireturn, 1) := by decide +kernel
set_option maxRecDepth 20000 in
theorem ggX6_readPart_X6_readerAt : GoodIn wsX6_readPart wsX6_readerAt := goodIn_ca (goodIn_r _ [9, 10, 11, 12, 54, 55, 56, 57, 58, 59, 60] (by decide +kernel) (by decide +kernel)) (goodIn_sub (fun _ h => List.mem_cons_of_mem _ (List.mem_append_left _ (List.mem_append_left _ (List.mem_append_left _ (List.mem_append_right _ h))))) (by decide +kernel))
set_option maxRecDepth 20000 in
theorem gX6_readPart_X6_readerAt : GoodIn wsX6_readPart (wsV RX6 128 RX6 yX6_readerAt wsX6_readerAt) := goodIn_app (goodIn_of _ (by decide +kernel)) ggX6_readPart_X6_readerAt
set_option maxRecDepth 20000 in
theorem ggX6_readPart_X6_signRowAt : GoodIn wsX6_readPart wsX6_signRowAt := goodIn_ca (goodIn_r _ [16, 10, 11, 17, 54, 55, 56, 57, 58, 59, 60] (by decide +kernel) (by decide +kernel)) (goodIn_sub (fun _ h => List.mem_cons_of_mem _ (List.mem_append_left _ (List.mem_append_left _ (List.mem_append_left _ (List.mem_append_right _ h))))) (by decide +kernel))
set_option maxRecDepth 20000 in
theorem gX6_readPart_X6_signRowAt : GoodIn wsX6_readPart (wsV RX6 56 RX6 yX6_signRowAt wsX6_signRowAt) := goodIn_app (goodIn_of _ (by decide +kernel)) ggX6_readPart_X6_signRowAt
set_option maxRecDepth 20000 in
theorem ggX6_readPart_X6_requirePlaces : GoodIn wsX6_readPart wsX6_requirePlaces := goodIn_ca (goodIn_r _ [20, 10, 11] (by decide +kernel) (by decide +kernel)) (goodIn_sub (fun _ h => List.mem_cons_of_mem _ (List.mem_append_left _ (List.mem_append_left _ (List.mem_append_left _ (List.mem_append_right _ h))))) (by decide +kernel))
set_option maxRecDepth 20000 in
theorem gX6_readPart_X6_requirePlaces : GoodIn wsX6_readPart (va_wsS RX6 79 yX6_requirePlaces wsX6_requirePlaces) := goodIn_app (goodIn_of _ (by decide +kernel)) ggX6_readPart_X6_requirePlaces
set_option maxRecDepth 20000 in
theorem ggX6_readPart_X6_requireSome : GoodIn wsX6_readPart wsX6_requireSome := goodIn_ca (goodIn_r _ [23, 24, 25] (by decide +kernel) (by decide +kernel)) (goodIn_sub (fun _ h => List.mem_cons_of_mem _ (List.mem_append_left _ (List.mem_append_left _ (List.mem_append_right _ h)))) (by decide +kernel))
set_option maxRecDepth 20000 in
theorem gX6_readPart_X6_requireSome : GoodIn wsX6_readPart (va_wsS RX6 161 yX6_requireSome wsX6_requireSome) := goodIn_app (goodIn_of _ (by decide +kernel)) ggX6_readPart_X6_requireSome
set_option maxRecDepth 20000 in
theorem ggX6_readPart_X6_openReaderAt : GoodIn wsX6_readPart wsX6_openReaderAt := goodIn_ca (goodIn_ca (goodIn_r _ [29, 30, 31, 32, 33, 5, 6, 7, 8, 9, 10, 11, 12, 48, 49, 50, 51, 52, 53, 54, 55, 56, 57, 58, 59, 60] (by decide +kernel) (by decide +kernel)) (goodIn_sub (fun _ h => List.mem_cons_of_mem _ (List.mem_append_left _ (List.mem_append_right _ h))) (by decide +kernel))) (goodIn_sub (fun _ h => List.mem_cons_of_mem _ (List.mem_append_left _ (List.mem_append_left _ (List.mem_append_left _ (List.mem_append_right _ h))))) (by decide +kernel))
set_option maxRecDepth 20000 in
theorem gX6_readPart_X6_openReaderAt : GoodIn wsX6_readPart (wsV RX6 155 RX6 yX6_openReaderAt wsX6_openReaderAt) := goodIn_app (goodIn_of _ (by decide +kernel)) ggX6_readPart_X6_openReaderAt
set_option maxRecDepth 20000 in
theorem ggX6_readPart_X2_readSome : GoodIn wsX6_readPart wsX2_readSome := goodIn_ca (goodIn_r _ [38, 39, 40, 41, 42, 43, 44, 45, 46, 48, 49, 50, 51, 52, 53, 47] (by decide +kernel) (by decide +kernel)) (goodIn_sub (fun _ h => List.mem_cons_of_mem _ (List.mem_append_right _ h)) (by decide +kernel))
set_option maxRecDepth 20000 in
theorem gX6_readPart_X2_readSome : GoodIn wsX6_readPart (wsV RX6 173 RX2 yX2_readSome wsX2_readSome) := goodIn_app (goodIn_of _ (by decide +kernel)) ggX6_readPart_X2_readSome
theorem dX6_readPart_0 : decode cX6_readPart 0 = .ok (.aload_n 0, 1) := by decide +kernel
theorem dX6_readPart_1 : decode cX6_readPart 1 = .ok (.iload_n 1, 1) := by decide +kernel
theorem dX6_readPart_2 : decode cX6_readPart 2 = .ok (.invokevirtual 128, 3) := by decide +kernel
theorem dX6_readPart_5 : decode cX6_readPart 5 = .ok (.pop, 1) := by decide +kernel
theorem dX6_readPart_6 : decode cX6_readPart 6 = .ok (.aload_n 0, 1) := by decide +kernel
theorem dX6_readPart_7 : decode cX6_readPart 7 = .ok (.iload_n 2, 1) := by decide +kernel
theorem dX6_readPart_8 : decode cX6_readPart 8 = .ok (.invokevirtual 56, 3) := by decide +kernel
theorem dX6_readPart_11 : decode cX6_readPart 11 = .ok (.astore 5, 2) := by decide +kernel
theorem dX6_readPart_13 : decode cX6_readPart 13 = .ok (.iload_n 3, 1) := by decide +kernel
theorem dX6_readPart_14 : decode cX6_readPart 14 = .ok (.iload 4, 2) := by decide +kernel
theorem dX6_readPart_16 : decode cX6_readPart 16 = .ok (.aload 5, 2) := by decide +kernel
theorem dX6_readPart_18 : decode cX6_readPart 18 = .ok (.getfield 60, 3) := by decide +kernel
theorem dX6_readPart_21 : decode cX6_readPart 21 = .ok (.arraylength, 1) := by decide +kernel
theorem dX6_readPart_22 : decode cX6_readPart 22 = .ok (.invokestatic 79, 3) := by decide +kernel
theorem dX6_readPart_25 : decode cX6_readPart 25 = .ok (.iload 4, 2) := by decide +kernel
theorem dX6_readPart_27 : decode cX6_readPart 27 = .ok (.invokestatic 161, 3) := by decide +kernel
theorem dX6_readPart_30 : decode cX6_readPart 30 = .ok (.aload_n 0, 1) := by decide +kernel
theorem dX6_readPart_31 : decode cX6_readPart 31 = .ok (.iload_n 1, 1) := by decide +kernel
theorem dX6_readPart_32 : decode cX6_readPart 32 = .ok (.invokevirtual 155, 3) := by decide +kernel
theorem dX6_readPart_35 : decode cX6_readPart 35 = .ok (.astore 6, 2) := by decide +kernel
theorem dX6_readPart_37 : decode cX6_readPart 37 = .ok (.aload 6, 2) := by decide +kernel
theorem dX6_readPart_39 : decode cX6_readPart 39 = .ok (.getfield 164, 3) := by decide +kernel
theorem dX6_readPart_42 : decode cX6_readPart 42 = .ok (.aload 5, 2) := by decide +kernel
theorem dX6_readPart_44 : decode cX6_readPart 44 = .ok (.if_acmp .ne 13, 3) := by decide +kernel
theorem dX6_readPart_47 : decode cX6_readPart 47 = .ok (.new 168, 3) := by decide +kernel
theorem dX6_readPart_50 : decode cX6_readPart 50 = .ok (.dup, 1) := by decide +kernel
theorem dX6_readPart_51 : decode cX6_readPart 51 = .ok (.ldc 170, 2) := by decide +kernel
theorem dX6_readPart_53 : decode cX6_readPart 53 = .ok (.invokespecial 172, 3) := by decide +kernel
theorem dX6_readPart_56 : decode cX6_readPart 56 = .ok (.athrow, 1) := by decide +kernel
theorem dX6_readPart_57 : decode cX6_readPart 57 = .ok (.aload 6, 2) := by decide +kernel
theorem dX6_readPart_59 : decode cX6_readPart 59 = .ok (.aload 5, 2) := by decide +kernel
theorem dX6_readPart_61 : decode cX6_readPart 61 = .ok (.getfield 60, 3) := by decide +kernel
theorem dX6_readPart_64 : decode cX6_readPart 64 = .ok (.iload_n 3, 1) := by decide +kernel
theorem dX6_readPart_65 : decode cX6_readPart 65 = .ok (.iload 4, 2) := by decide +kernel
theorem dX6_readPart_67 : decode cX6_readPart 67 = .ok (.invokevirtual 173, 3) := by decide +kernel
theorem dX6_readPart_70 : decode cX6_readPart 70 = .ok (.ireturn, 1) := by decide +kernel
set_option maxRecDepth 20000 in
theorem ggX6_skip_X6_openReaderAt : GoodIn wsX6_skip wsX6_openReaderAt := goodIn_ca (goodIn_ca (goodIn_r _ [5, 6, 7, 8, 9, 10, 11, 12, 4, 13, 14, 15, 16, 31, 32, 33, 34, 35, 36, 37, 38, 39, 40, 41, 42, 43] (by decide +kernel) (by decide +kernel)) (goodIn_sub (fun _ h => List.mem_cons_of_mem _ (List.mem_append_left _ (List.mem_append_right _ h))) (by decide +kernel))) (goodIn_sub (fun _ h => List.mem_cons_of_mem _ (List.mem_append_right _ h)) (by decide +kernel))
set_option maxRecDepth 20000 in
theorem gX6_skip_X6_openReaderAt : GoodIn wsX6_skip (wsV RX6 155 RX6 yX6_openReaderAt wsX6_openReaderAt) := goodIn_app (goodIn_of _ (by decide +kernel)) ggX6_skip_X6_openReaderAt
set_option maxRecDepth 20000 in
theorem ggX6_skip_X2_skipSome : GoodIn wsX6_skip wsX2_skipSome := goodIn_r _ [21, 22, 23, 24, 25, 26, 27, 28, 29, 30, 31, 32, 33, 34, 35, 36] (by decide +kernel) (by decide +kernel)
set_option maxRecDepth 20000 in
theorem gX6_skip_X2_skipSome : GoodIn wsX6_skip (wsV RX6 177 RX2 yX2_skipSome wsX2_skipSome) := goodIn_app (goodIn_of _ (by decide +kernel)) ggX6_skip_X2_skipSome
theorem dX6_skip_0 : decode cX6_skip 0 = .ok (.aload_n 0, 1) := by decide +kernel
theorem dX6_skip_1 : decode cX6_skip 1 = .ok (.iload_n 1, 1) := by decide +kernel
theorem dX6_skip_2 : decode cX6_skip 2 = .ok (.invokevirtual 155, 3) := by decide +kernel
theorem dX6_skip_5 : decode cX6_skip 5 = .ok (.lload_n 2, 1) := by decide +kernel
theorem dX6_skip_6 : decode cX6_skip 6 = .ok (.invokevirtual 177, 3) := by decide +kernel
theorem dX6_skip_9 : decode cX6_skip 9 = .ok (.lreturn, 1) := by decide +kernel
set_option maxRecDepth 20000 in
theorem ggX6_mark_X6_readerAt : GoodIn wsX6_mark wsX6_readerAt := goodIn_ca (goodIn_r _ [9, 10, 11, 12, 34, 35, 36, 37, 38, 39, 40] (by decide +kernel) (by decide +kernel)) (goodIn_sub (fun _ h => List.mem_cons_of_mem _ (List.mem_append_left _ (List.mem_append_right _ h))) (by decide +kernel))
set_option maxRecDepth 20000 in
theorem gX6_mark_X6_readerAt : GoodIn wsX6_mark (wsV RX6 128 RX6 yX6_readerAt wsX6_readerAt) := goodIn_app (goodIn_of _ (by decide +kernel)) ggX6_mark_X6_readerAt
set_option maxRecDepth 20000 in
theorem ggX6_mark_X6_openReaderAt : GoodIn wsX6_mark wsX6_openReaderAt := goodIn_ca (goodIn_ca (goodIn_r _ [16, 17, 18, 19, 20, 5, 6, 7, 8, 9, 10, 11, 12, 28, 29, 30, 31, 32, 33, 34, 35, 36, 37, 38, 39, 40] (by decide +kernel) (by decide +kernel)) (goodIn_sub (fun _ h => List.mem_cons_of_mem _ (List.mem_append_right _ h)) (by decide +kernel))) (goodIn_sub (fun _ h => List.mem_cons_of_mem _ (List.mem_append_left _ (List.mem_append_right _ h))) (by decide +kernel))
set_option maxRecDepth 20000 in
theorem gX6_mark_X6_openReaderAt : GoodIn wsX6_mark (wsV RX6 155 RX6 yX6_openReaderAt wsX6_openReaderAt) := goodIn_app (goodIn_of _ (by decide +kernel)) ggX6_mark_X6_openReaderAt
set_option maxRecDepth 20000 in
theorem ggX6_mark_X2_countRest : GoodIn wsX6_mark wsX2_countRest := goodIn_r _ [25, 26, 27, 28, 29, 30, 31, 32, 33] (by decide +kernel) (by decide +kernel)
set_option maxRecDepth 20000 in
theorem gX6_mark_X2_countRest : GoodIn wsX6_mark (wsV RX6 140 RX2 yX2_countRest wsX2_countRest) := goodIn_app (goodIn_of _ (by decide +kernel)) ggX6_mark_X2_countRest
theorem dX6_mark_0 : decode cX6_mark 0 = .ok (.aload_n 0, 1) := by decide +kernel
theorem dX6_mark_1 : decode cX6_mark 1 = .ok (.iload_n 1, 1) := by decide +kernel
theorem dX6_mark_2 : decode cX6_mark 2 = .ok (.invokevirtual 128, 3) := by decide +kernel
theorem dX6_mark_5 : decode cX6_mark 5 = .ok (.pop, 1) := by decide +kernel
theorem dX6_mark_6 : decode cX6_mark 6 = .ok (.iload_n 2, 1) := by decide +kernel
theorem dX6_mark_7 : decode cX6_mark 7 = .ok (.ifCond .ge 13, 3) := by decide +kernel
theorem dX6_mark_10 : decode cX6_mark 10 = .ok (.new 64, 3) := by decide +kernel
theorem dX6_mark_13 : decode cX6_mark 13 = .ok (.dup, 1) := by decide +kernel
theorem dX6_mark_14 : decode cX6_mark 14 = .ok (.ldc 181, 2) := by decide +kernel
theorem dX6_mark_16 : decode cX6_mark 16 = .ok (.invokespecial 68, 3) := by decide +kernel
theorem dX6_mark_19 : decode cX6_mark 19 = .ok (.athrow, 1) := by decide +kernel
theorem dX6_mark_20 : decode cX6_mark 20 = .ok (.aload_n 0, 1) := by decide +kernel
theorem dX6_mark_21 : decode cX6_mark 21 = .ok (.iload_n 1, 1) := by decide +kernel
theorem dX6_mark_22 : decode cX6_mark 22 = .ok (.invokevirtual 155, 3) := by decide +kernel
theorem dX6_mark_25 : decode cX6_mark 25 = .ok (.astore_n 3, 1) := by decide +kernel
theorem dX6_mark_26 : decode cX6_mark 26 = .ok (.aload_n 3, 1) := by decide +kernel
theorem dX6_mark_27 : decode cX6_mark 27 = .ok (.aload_n 3, 1) := by decide +kernel
theorem dX6_mark_28 : decode cX6_mark 28 = .ok (.getfield 183, 3) := by decide +kernel
theorem dX6_mark_31 : decode cX6_mark 31 = .ok (.putfield 186, 3) := by decide +kernel
theorem dX6_mark_34 : decode cX6_mark 34 = .ok (.aload_n 3, 1) := by decide +kernel
theorem dX6_mark_35 : decode cX6_mark 35 = .ok (.invokevirtual 140, 3) := by decide +kernel
theorem dX6_mark_38 : decode cX6_mark 38 = .ok (.ireturn, 1) := by decide +kernel
set_option maxRecDepth 20000 in
theorem ggX6_back_X6_openReaderAt : GoodIn wsX6_back wsX6_openReaderAt := goodIn_ca (goodIn_ca (goodIn_r _ [7, 8, 9, 10, 11, 12, 13, 14, 6, 15, 16, 17, 18, 26, 27, 28, 29, 30, 31, 32, 33, 34, 35, 36, 37, 38] (by decide +kernel) (by decide +kernel)) (goodIn_sub (fun _ h => List.mem_cons_of_mem _ (List.mem_append_left _ (List.mem_append_right _ h))) (by decide +kernel))) (goodIn_sub (fun _ h => List.mem_cons_of_mem _ (List.mem_append_right _ h)) (by decide +kernel))
set_option maxRecDepth 20000 in
theorem gX6_back_X6_openReaderAt : GoodIn wsX6_back (wsV RX6 155 RX6 yX6_openReaderAt wsX6_openReaderAt) := goodIn_app (goodIn_of _ (by decide +kernel)) ggX6_back_X6_openReaderAt
set_option maxRecDepth 20000 in
theorem ggX6_back_X2_countRest : GoodIn wsX6_back wsX2_countRest := goodIn_r _ [23, 24, 25, 26, 27, 28, 29, 30, 31] (by decide +kernel) (by decide +kernel)
set_option maxRecDepth 20000 in
theorem gX6_back_X2_countRest : GoodIn wsX6_back (wsV RX6 140 RX2 yX2_countRest wsX2_countRest) := goodIn_app (goodIn_of _ (by decide +kernel)) ggX6_back_X2_countRest
theorem dX6_back_0 : decode cX6_back 0 = .ok (.aload_n 0, 1) := by decide +kernel
theorem dX6_back_1 : decode cX6_back 1 = .ok (.iload_n 1, 1) := by decide +kernel
theorem dX6_back_2 : decode cX6_back 2 = .ok (.invokevirtual 155, 3) := by decide +kernel
theorem dX6_back_5 : decode cX6_back 5 = .ok (.astore_n 2, 1) := by decide +kernel
theorem dX6_back_6 : decode cX6_back 6 = .ok (.aload_n 2, 1) := by decide +kernel
theorem dX6_back_7 : decode cX6_back 7 = .ok (.aload_n 2, 1) := by decide +kernel
theorem dX6_back_8 : decode cX6_back 8 = .ok (.getfield 186, 3) := by decide +kernel
theorem dX6_back_11 : decode cX6_back 11 = .ok (.putfield 183, 3) := by decide +kernel
theorem dX6_back_14 : decode cX6_back 14 = .ok (.aload_n 2, 1) := by decide +kernel
theorem dX6_back_15 : decode cX6_back 15 = .ok (.invokevirtual 140, 3) := by decide +kernel
theorem dX6_back_18 : decode cX6_back 18 = .ok (.ireturn, 1) := by decide +kernel
set_option maxRecDepth 20000 in
theorem ggX6_join_X6_streamAt : GoodIn wsX6_join wsX6_streamAt := goodIn_ca (goodIn_r _ [6, 7, 8, 9, 37, 38, 39, 40, 41, 42, 43] (by decide +kernel) (by decide +kernel)) (goodIn_sub (fun _ h => List.mem_cons_of_mem _ (List.mem_append_right _ h)) (by decide +kernel))
set_option maxRecDepth 20000 in
theorem gX6_join_X6_streamAt : GoodIn wsX6_join (wsV RX6 189 RX6 yX6_streamAt wsX6_streamAt) := goodIn_app (goodIn_of _ (by decide +kernel)) ggX6_join_X6_streamAt
set_option maxRecDepth 20000 in
theorem ggX6_join_X6_byteRowAt : GoodIn wsX6_join wsX6_byteRowAt := goodIn_ca (goodIn_r _ [13, 7, 8, 14, 37, 38, 39, 40, 41, 42, 43] (by decide +kernel) (by decide +kernel)) (goodIn_sub (fun _ h => List.mem_cons_of_mem _ (List.mem_append_right _ h)) (by decide +kernel))
set_option maxRecDepth 20000 in
theorem gX6_join_X6_byteRowAt : GoodIn wsX6_join (wsV RX6 83 RX6 yX6_byteRowAt wsX6_byteRowAt) := goodIn_app (goodIn_of _ (by decide +kernel)) ggX6_join_X6_byteRowAt
set_option maxRecDepth 20000 in
theorem ggX6_join_X1_giveUpParts : GoodIn wsX6_join wsX1_giveUpParts := goodIn_r _ [19, 20, 21, 22, 23, 24, 31, 32, 33, 34, 35, 36] (by decide +kernel) (by decide +kernel)
set_option maxRecDepth 20000 in
theorem gX6_join_X1_giveUpParts : GoodIn wsX6_join (wsV RX6 193 RX1 yX1_giveUpParts wsX1_giveUpParts) := goodIn_app (goodIn_of _ (by decide +kernel)) ggX6_join_X1_giveUpParts
set_option maxRecDepth 20000 in
theorem ggX6_join_X1_addRow : GoodIn wsX6_join wsX1_addRow := goodIn_r _ [28, 20, 29, 24, 30, 31, 32, 33, 34, 35, 36, 44] (by decide +kernel) (by decide +kernel)
set_option maxRecDepth 20000 in
theorem gX6_join_X1_addRow : GoodIn wsX6_join (wsV RX6 196 RX1 yX1_addRow wsX1_addRow) := goodIn_app (goodIn_of _ (by decide +kernel)) ggX6_join_X1_addRow
theorem dX6_join_0 : decode cX6_join 0 = .ok (.aload_n 0, 1) := by decide +kernel
theorem dX6_join_1 : decode cX6_join 1 = .ok (.iload_n 1, 1) := by decide +kernel
theorem dX6_join_2 : decode cX6_join 2 = .ok (.invokevirtual 189, 3) := by decide +kernel
theorem dX6_join_5 : decode cX6_join 5 = .ok (.astore 4, 2) := by decide +kernel
theorem dX6_join_7 : decode cX6_join 7 = .ok (.aload_n 0, 1) := by decide +kernel
theorem dX6_join_8 : decode cX6_join 8 = .ok (.iload_n 2, 1) := by decide +kernel
theorem dX6_join_9 : decode cX6_join 9 = .ok (.invokevirtual 83, 3) := by decide +kernel
theorem dX6_join_12 : decode cX6_join 12 = .ok (.astore 5, 2) := by decide +kernel
theorem dX6_join_14 : decode cX6_join 14 = .ok (.aload_n 0, 1) := by decide +kernel
theorem dX6_join_15 : decode cX6_join 15 = .ok (.iload_n 3, 1) := by decide +kernel
theorem dX6_join_16 : decode cX6_join 16 = .ok (.invokevirtual 83, 3) := by decide +kernel
theorem dX6_join_19 : decode cX6_join 19 = .ok (.astore 6, 2) := by decide +kernel
theorem dX6_join_21 : decode cX6_join 21 = .ok (.aload 4, 2) := by decide +kernel
theorem dX6_join_23 : decode cX6_join 23 = .ok (.invokevirtual 193, 3) := by decide +kernel
theorem dX6_join_26 : decode cX6_join 26 = .ok (.aload 4, 2) := by decide +kernel
theorem dX6_join_28 : decode cX6_join 28 = .ok (.aload 5, 2) := by decide +kernel
theorem dX6_join_30 : decode cX6_join 30 = .ok (.invokevirtual 196, 3) := by decide +kernel
theorem dX6_join_33 : decode cX6_join 33 = .ok (.aload 4, 2) := by decide +kernel
theorem dX6_join_35 : decode cX6_join 35 = .ok (.aload 6, 2) := by decide +kernel
theorem dX6_join_37 : decode cX6_join 37 = .ok (.invokevirtual 196, 3) := by decide +kernel
theorem dX6_join_40 : decode cX6_join 40 = .ok (.aload 4, 2) := by decide +kernel
theorem dX6_join_42 : decode cX6_join 42 = .ok (.getfield 200, 3) := by decide +kernel
theorem dX6_join_45 : decode cX6_join 45 = .ok (.ireturn, 1) := by decide +kernel
set_option maxRecDepth 20000 in
theorem ggX6_joinThree_X6_streamAt : GoodIn wsX6_joinThree wsX6_streamAt := goodIn_ca (goodIn_r _ [6, 7, 8, 9, 41, 42, 43, 44, 45, 46, 47] (by decide +kernel) (by decide +kernel)) (goodIn_sub (fun _ h => List.mem_cons_of_mem _ (List.mem_append_right _ h)) (by decide +kernel))
set_option maxRecDepth 20000 in
theorem gX6_joinThree_X6_streamAt : GoodIn wsX6_joinThree (wsV RX6 189 RX6 yX6_streamAt wsX6_streamAt) := goodIn_app (goodIn_of _ (by decide +kernel)) ggX6_joinThree_X6_streamAt
set_option maxRecDepth 20000 in
theorem ggX6_joinThree_X6_byteRowAt : GoodIn wsX6_joinThree wsX6_byteRowAt := goodIn_ca (goodIn_r _ [13, 7, 8, 14, 41, 42, 43, 44, 45, 46, 47] (by decide +kernel) (by decide +kernel)) (goodIn_sub (fun _ h => List.mem_cons_of_mem _ (List.mem_append_right _ h)) (by decide +kernel))
set_option maxRecDepth 20000 in
theorem gX6_joinThree_X6_byteRowAt : GoodIn wsX6_joinThree (wsV RX6 83 RX6 yX6_byteRowAt wsX6_byteRowAt) := goodIn_app (goodIn_of _ (by decide +kernel)) ggX6_joinThree_X6_byteRowAt
set_option maxRecDepth 20000 in
theorem ggX6_joinThree_X1_joinRows : GoodIn wsX6_joinThree wsX1_joinRows := goodIn_r _ [19, 20, 21, 22, 18, 23, 24, 25, 26, 27, 28, 29, 30, 31, 32, 33, 34, 35, 36, 37, 38, 39, 40, 48] (by decide +kernel) (by decide +kernel)
set_option maxRecDepth 20000 in
theorem gX6_joinThree_X1_joinRows : GoodIn wsX6_joinThree (wsV RX6 203 RX1 yX1_joinRows wsX1_joinRows) := goodIn_app (goodIn_of _ (by decide +kernel)) ggX6_joinThree_X1_joinRows
theorem dX6_joinThree_0 : decode cX6_joinThree 0 = .ok (.aload_n 0, 1) := by decide +kernel
theorem dX6_joinThree_1 : decode cX6_joinThree 1 = .ok (.iload_n 1, 1) := by decide +kernel
theorem dX6_joinThree_2 : decode cX6_joinThree 2 = .ok (.invokevirtual 189, 3) := by decide +kernel
theorem dX6_joinThree_5 : decode cX6_joinThree 5 = .ok (.astore 6, 2) := by decide +kernel
theorem dX6_joinThree_7 : decode cX6_joinThree 7 = .ok (.aload_n 0, 1) := by decide +kernel
theorem dX6_joinThree_8 : decode cX6_joinThree 8 = .ok (.iload_n 2, 1) := by decide +kernel
theorem dX6_joinThree_9 : decode cX6_joinThree 9 = .ok (.invokevirtual 83, 3) := by decide +kernel
theorem dX6_joinThree_12 : decode cX6_joinThree 12 = .ok (.astore 7, 2) := by decide +kernel
theorem dX6_joinThree_14 : decode cX6_joinThree 14 = .ok (.aload_n 0, 1) := by decide +kernel
theorem dX6_joinThree_15 : decode cX6_joinThree 15 = .ok (.iload_n 3, 1) := by decide +kernel
theorem dX6_joinThree_16 : decode cX6_joinThree 16 = .ok (.invokevirtual 83, 3) := by decide +kernel
theorem dX6_joinThree_19 : decode cX6_joinThree 19 = .ok (.astore 8, 2) := by decide +kernel
theorem dX6_joinThree_21 : decode cX6_joinThree 21 = .ok (.aload_n 0, 1) := by decide +kernel
theorem dX6_joinThree_22 : decode cX6_joinThree 22 = .ok (.iload 4, 2) := by decide +kernel
theorem dX6_joinThree_24 : decode cX6_joinThree 24 = .ok (.invokevirtual 83, 3) := by decide +kernel
theorem dX6_joinThree_27 : decode cX6_joinThree 27 = .ok (.astore 9, 2) := by decide +kernel
theorem dX6_joinThree_29 : decode cX6_joinThree 29 = .ok (.aload 6, 2) := by decide +kernel
theorem dX6_joinThree_31 : decode cX6_joinThree 31 = .ok (.aload 7, 2) := by decide +kernel
theorem dX6_joinThree_33 : decode cX6_joinThree 33 = .ok (.aload 8, 2) := by decide +kernel
theorem dX6_joinThree_35 : decode cX6_joinThree 35 = .ok (.aload 9, 2) := by decide +kernel
theorem dX6_joinThree_37 : decode cX6_joinThree 37 = .ok (.invokevirtual 203, 3) := by decide +kernel
theorem dX6_joinThree_40 : decode cX6_joinThree 40 = .ok (.aload 6, 2) := by decide +kernel
theorem dX6_joinThree_42 : decode cX6_joinThree 42 = .ok (.getfield 200, 3) := by decide +kernel
theorem dX6_joinThree_45 : decode cX6_joinThree 45 = .ok (.ireturn, 1) := by decide +kernel
set_option maxRecDepth 20000 in
theorem ggX6_next_X6_joinedStreamAt : GoodIn wsX6_next wsX6_joinedStreamAt := goodIn_ca (goodIn_ca (goodIn_r _ [5, 6, 7, 8, 9, 10, 4, 11, 12, 13, 14, 15, 16, 17, 18, 19, 20, 34, 35, 36, 37, 38, 39, 40, 41, 42, 43, 44, 45, 46] (by decide +kernel) (by decide +kernel)) (goodIn_sub (fun _ h => List.mem_cons_of_mem _ (List.mem_append_left _ (List.mem_append_left _ (List.mem_append_right _ h)))) (by decide +kernel))) (goodIn_sub (fun _ h => List.mem_cons_of_mem _ (List.mem_append_left _ (List.mem_append_right _ h))) (by decide +kernel))
set_option maxRecDepth 20000 in
theorem gX6_next_X6_joinedStreamAt : GoodIn wsX6_next (wsV RX6 207 RX6 yX6_joinedStreamAt wsX6_joinedStreamAt) := goodIn_app (goodIn_of _ (by decide +kernel)) ggX6_next_X6_joinedStreamAt
set_option maxRecDepth 20000 in
theorem ggX6_next_X1_readOne : GoodIn wsX6_next wsX1_readOne := goodIn_ca (goodIn_r _ [24, 25, 26, 27, 28, 29, 30, 31, 32, 18, 33, 20, 41, 42, 43, 44, 45, 46, 47] (by decide +kernel) (by decide +kernel)) (goodIn_sub (fun _ h => List.mem_cons_of_mem _ (List.mem_append_right _ h)) (by decide +kernel))
set_option maxRecDepth 20000 in
theorem gX6_next_X1_readOne : GoodIn wsX6_next (wsV RX6 210 RX1 yX1_readOne wsX1_readOne) := goodIn_app (goodIn_of _ (by decide +kernel)) ggX6_next_X1_readOne
theorem dX6_next_0 : decode cX6_next 0 = .ok (.aload_n 0, 1) := by decide +kernel
theorem dX6_next_1 : decode cX6_next 1 = .ok (.iload_n 1, 1) := by decide +kernel
theorem dX6_next_2 : decode cX6_next 2 = .ok (.invokevirtual 207, 3) := by decide +kernel
theorem dX6_next_5 : decode cX6_next 5 = .ok (.invokevirtual 210, 3) := by decide +kernel
theorem dX6_next_8 : decode cX6_next 8 = .ok (.ireturn, 1) := by decide +kernel
set_option maxRecDepth 20000 in
theorem ggX6_nextPart_X6_streamAt : GoodIn wsX6_nextPart wsX6_streamAt := goodIn_ca (goodIn_r _ [8, 9, 10, 11, 59, 60, 61, 62, 63, 64, 65] (by decide +kernel) (by decide +kernel)) (goodIn_sub (fun _ h => List.mem_cons_of_mem _ (List.mem_append_left _ (List.mem_append_left _ (List.mem_append_left _ (List.mem_append_right _ h))))) (by decide +kernel))
set_option maxRecDepth 20000 in
theorem gX6_nextPart_X6_streamAt : GoodIn wsX6_nextPart (wsV RX6 189 RX6 yX6_streamAt wsX6_streamAt) := goodIn_app (goodIn_of _ (by decide +kernel)) ggX6_nextPart_X6_streamAt
set_option maxRecDepth 20000 in
theorem ggX6_nextPart_X6_byteRowAt : GoodIn wsX6_nextPart wsX6_byteRowAt := goodIn_ca (goodIn_r _ [15, 9, 10, 16, 59, 60, 61, 62, 63, 64, 65] (by decide +kernel) (by decide +kernel)) (goodIn_sub (fun _ h => List.mem_cons_of_mem _ (List.mem_append_left _ (List.mem_append_left _ (List.mem_append_left _ (List.mem_append_right _ h))))) (by decide +kernel))
set_option maxRecDepth 20000 in
theorem gX6_nextPart_X6_byteRowAt : GoodIn wsX6_nextPart (wsV RX6 83 RX6 yX6_byteRowAt wsX6_byteRowAt) := goodIn_app (goodIn_of _ (by decide +kernel)) ggX6_nextPart_X6_byteRowAt
set_option maxRecDepth 20000 in
theorem ggX6_nextPart_X6_requirePlaces : GoodIn wsX6_nextPart wsX6_requirePlaces := goodIn_ca (goodIn_r _ [19, 9, 10] (by decide +kernel) (by decide +kernel)) (goodIn_sub (fun _ h => List.mem_cons_of_mem _ (List.mem_append_left _ (List.mem_append_left _ (List.mem_append_left _ (List.mem_append_right _ h))))) (by decide +kernel))
set_option maxRecDepth 20000 in
theorem gX6_nextPart_X6_requirePlaces : GoodIn wsX6_nextPart (va_wsS RX6 79 yX6_requirePlaces wsX6_requirePlaces) := goodIn_app (goodIn_of _ (by decide +kernel)) ggX6_nextPart_X6_requirePlaces
set_option maxRecDepth 20000 in
theorem ggX6_nextPart_X6_requireSome : GoodIn wsX6_nextPart wsX6_requireSome := goodIn_ca (goodIn_r _ [22, 23, 24] (by decide +kernel) (by decide +kernel)) (goodIn_sub (fun _ h => List.mem_cons_of_mem _ (List.mem_append_left _ (List.mem_append_left _ (List.mem_append_right _ h)))) (by decide +kernel))
set_option maxRecDepth 20000 in
theorem gX6_nextPart_X6_requireSome : GoodIn wsX6_nextPart (va_wsS RX6 161 yX6_requireSome wsX6_requireSome) := goodIn_app (goodIn_of _ (by decide +kernel)) ggX6_nextPart_X6_requireSome
set_option maxRecDepth 20000 in
theorem ggX6_nextPart_X6_joinedStreamAt : GoodIn wsX6_nextPart wsX6_joinedStreamAt := goodIn_ca (goodIn_ca (goodIn_r _ [28, 29, 30, 4, 5, 6, 7, 8, 9, 10, 11, 31, 32, 33, 34, 35, 36, 59, 60, 61, 62, 63, 64, 65, 66, 67, 68, 69, 70, 71] (by decide +kernel) (by decide +kernel)) (goodIn_sub (fun _ h => List.mem_cons_of_mem _ (List.mem_append_left _ (List.mem_append_right _ h))) (by decide +kernel))) (goodIn_sub (fun _ h => List.mem_cons_of_mem _ (List.mem_append_left _ (List.mem_append_left _ (List.mem_append_left _ (List.mem_append_right _ h))))) (by decide +kernel))
set_option maxRecDepth 20000 in
theorem gX6_nextPart_X6_joinedStreamAt : GoodIn wsX6_nextPart (wsV RX6 207 RX6 yX6_joinedStreamAt wsX6_joinedStreamAt) := goodIn_app (goodIn_of _ (by decide +kernel)) ggX6_nextPart_X6_joinedStreamAt
set_option maxRecDepth 20000 in
theorem ggX6_nextPart_X1_hasPart : GoodIn wsX6_nextPart wsX1_hasPart := goodIn_r _ [40, 36, 41, 66, 67, 68, 69, 70, 71] (by decide +kernel) (by decide +kernel)
set_option maxRecDepth 20000 in
theorem gX6_nextPart_X1_hasPart : GoodIn wsX6_nextPart (wsV RX6 211 RX1 yX1_hasPart wsX1_hasPart) := goodIn_app (goodIn_of _ (by decide +kernel)) ggX6_nextPart_X1_hasPart
set_option maxRecDepth 20000 in
theorem ggX6_nextPart_X1_readSome : GoodIn wsX6_nextPart wsX1_readSome := goodIn_ca (goodIn_r _ [45, 41, 46, 47, 48, 49, 50, 51, 52, 53, 54, 55, 56, 34, 57, 36, 66, 67, 68, 69, 70, 71, 58] (by decide +kernel) (by decide +kernel)) (goodIn_sub (fun _ h => List.mem_cons_of_mem _ (List.mem_append_right _ h)) (by decide +kernel))
set_option maxRecDepth 20000 in
theorem gX6_nextPart_X1_readSome : GoodIn wsX6_nextPart (wsV RX6 217 RX1 yX1_readSome wsX1_readSome) := goodIn_app (goodIn_of _ (by decide +kernel)) ggX6_nextPart_X1_readSome
theorem dX6_nextPart_0 : decode cX6_nextPart 0 = .ok (.aload_n 0, 1) := by decide +kernel
theorem dX6_nextPart_1 : decode cX6_nextPart 1 = .ok (.iload_n 1, 1) := by decide +kernel
theorem dX6_nextPart_2 : decode cX6_nextPart 2 = .ok (.invokevirtual 189, 3) := by decide +kernel
theorem dX6_nextPart_5 : decode cX6_nextPart 5 = .ok (.pop, 1) := by decide +kernel
theorem dX6_nextPart_6 : decode cX6_nextPart 6 = .ok (.aload_n 0, 1) := by decide +kernel
theorem dX6_nextPart_7 : decode cX6_nextPart 7 = .ok (.iload_n 2, 1) := by decide +kernel
theorem dX6_nextPart_8 : decode cX6_nextPart 8 = .ok (.invokevirtual 83, 3) := by decide +kernel
theorem dX6_nextPart_11 : decode cX6_nextPart 11 = .ok (.astore 5, 2) := by decide +kernel
theorem dX6_nextPart_13 : decode cX6_nextPart 13 = .ok (.iload_n 3, 1) := by decide +kernel
theorem dX6_nextPart_14 : decode cX6_nextPart 14 = .ok (.iload 4, 2) := by decide +kernel
theorem dX6_nextPart_16 : decode cX6_nextPart 16 = .ok (.aload 5, 2) := by decide +kernel
theorem dX6_nextPart_18 : decode cX6_nextPart 18 = .ok (.getfield 87, 3) := by decide +kernel
theorem dX6_nextPart_21 : decode cX6_nextPart 21 = .ok (.arraylength, 1) := by decide +kernel
theorem dX6_nextPart_22 : decode cX6_nextPart 22 = .ok (.invokestatic 79, 3) := by decide +kernel
theorem dX6_nextPart_25 : decode cX6_nextPart 25 = .ok (.iload 4, 2) := by decide +kernel
theorem dX6_nextPart_27 : decode cX6_nextPart 27 = .ok (.invokestatic 161, 3) := by decide +kernel
theorem dX6_nextPart_30 : decode cX6_nextPart 30 = .ok (.aload_n 0, 1) := by decide +kernel
theorem dX6_nextPart_31 : decode cX6_nextPart 31 = .ok (.iload_n 1, 1) := by decide +kernel
theorem dX6_nextPart_32 : decode cX6_nextPart 32 = .ok (.invokevirtual 207, 3) := by decide +kernel
theorem dX6_nextPart_35 : decode cX6_nextPart 35 = .ok (.astore 6, 2) := by decide +kernel
theorem dX6_nextPart_37 : decode cX6_nextPart 37 = .ok (.aload 6, 2) := by decide +kernel
theorem dX6_nextPart_39 : decode cX6_nextPart 39 = .ok (.aload 5, 2) := by decide +kernel
theorem dX6_nextPart_41 : decode cX6_nextPart 41 = .ok (.invokevirtual 211, 3) := by decide +kernel
theorem dX6_nextPart_44 : decode cX6_nextPart 44 = .ok (.ifCond .eq 13, 3) := by decide +kernel
theorem dX6_nextPart_47 : decode cX6_nextPart 47 = .ok (.new 168, 3) := by decide +kernel
theorem dX6_nextPart_50 : decode cX6_nextPart 50 = .ok (.dup, 1) := by decide +kernel
theorem dX6_nextPart_51 : decode cX6_nextPart 51 = .ok (.ldc 215, 2) := by decide +kernel
theorem dX6_nextPart_53 : decode cX6_nextPart 53 = .ok (.invokespecial 172, 3) := by decide +kernel
theorem dX6_nextPart_56 : decode cX6_nextPart 56 = .ok (.athrow, 1) := by decide +kernel
theorem dX6_nextPart_57 : decode cX6_nextPart 57 = .ok (.aload 6, 2) := by decide +kernel
theorem dX6_nextPart_59 : decode cX6_nextPart 59 = .ok (.aload 5, 2) := by decide +kernel
theorem dX6_nextPart_61 : decode cX6_nextPart 61 = .ok (.getfield 87, 3) := by decide +kernel
theorem dX6_nextPart_64 : decode cX6_nextPart 64 = .ok (.iload_n 3, 1) := by decide +kernel
theorem dX6_nextPart_65 : decode cX6_nextPart 65 = .ok (.iload 4, 2) := by decide +kernel
theorem dX6_nextPart_67 : decode cX6_nextPart 67 = .ok (.invokevirtual 217, 3) := by decide +kernel
theorem dX6_nextPart_70 : decode cX6_nextPart 70 = .ok (.ireturn, 1) := by decide +kernel
set_option maxRecDepth 20000 in
theorem ggX6_pass_X6_streamAt : GoodIn wsX6_pass wsX6_streamAt := goodIn_ca (goodIn_r _ [5, 6, 7, 8, 44, 45, 46, 47, 48, 49, 50] (by decide +kernel) (by decide +kernel)) (goodIn_sub (fun _ h => List.mem_cons_of_mem _ (List.mem_append_left _ (List.mem_append_left _ (List.mem_append_left _ (List.mem_append_right _ h))))) (by decide +kernel))
set_option maxRecDepth 20000 in
theorem gX6_pass_X6_streamAt : GoodIn wsX6_pass (wsV RX6 189 RX6 yX6_streamAt wsX6_streamAt) := goodIn_app (goodIn_of _ (by decide +kernel)) ggX6_pass_X6_streamAt
set_option maxRecDepth 20000 in
theorem ggX6_pass_X6_requireWanted : GoodIn wsX6_pass wsX6_requireWanted := goodIn_ca (goodIn_r _ [11, 12, 13, 14] (by decide +kernel) (by decide +kernel)) (goodIn_sub (fun _ h => List.mem_cons_of_mem _ (List.mem_append_left _ (List.mem_append_left _ (List.mem_append_right _ h)))) (by decide +kernel))
set_option maxRecDepth 20000 in
theorem gX6_pass_X6_requireWanted : GoodIn wsX6_pass (va_wsS RX6 132 yX6_requireWanted wsX6_requireWanted) := goodIn_app (goodIn_of _ (by decide +kernel)) ggX6_pass_X6_requireWanted
set_option maxRecDepth 20000 in
theorem ggX6_pass_X6_joinedStreamAt : GoodIn wsX6_pass wsX6_joinedStreamAt := goodIn_ca (goodIn_ca (goodIn_r _ [18, 19, 20, 1, 2, 3, 4, 5, 6, 7, 8, 21, 22, 23, 24, 25, 26, 44, 45, 46, 47, 48, 49, 50, 51, 52, 53, 54, 55, 56] (by decide +kernel) (by decide +kernel)) (goodIn_sub (fun _ h => List.mem_cons_of_mem _ (List.mem_append_left _ (List.mem_append_right _ h))) (by decide +kernel))) (goodIn_sub (fun _ h => List.mem_cons_of_mem _ (List.mem_append_left _ (List.mem_append_left _ (List.mem_append_left _ (List.mem_append_right _ h))))) (by decide +kernel))
set_option maxRecDepth 20000 in
theorem gX6_pass_X6_joinedStreamAt : GoodIn wsX6_pass (wsV RX6 207 RX6 yX6_joinedStreamAt wsX6_joinedStreamAt) := goodIn_app (goodIn_of _ (by decide +kernel)) ggX6_pass_X6_joinedStreamAt
set_option maxRecDepth 20000 in
theorem ggX6_pass_X1_passSome : GoodIn wsX6_pass wsX1_passSome := goodIn_ca (goodIn_r _ [30, 31, 32, 33, 24, 34, 35, 36, 37, 38, 39, 40, 41, 42, 43, 26, 51, 52, 53, 54, 55, 56, 57] (by decide +kernel) (by decide +kernel)) (goodIn_sub (fun _ h => List.mem_cons_of_mem _ (List.mem_append_right _ h)) (by decide +kernel))
set_option maxRecDepth 20000 in
theorem gX6_pass_X1_passSome : GoodIn wsX6_pass (wsV RX6 220 RX1 yX1_passSome wsX1_passSome) := goodIn_app (goodIn_of _ (by decide +kernel)) ggX6_pass_X1_passSome
theorem dX6_pass_0 : decode cX6_pass 0 = .ok (.aload_n 0, 1) := by decide +kernel
theorem dX6_pass_1 : decode cX6_pass 1 = .ok (.iload_n 1, 1) := by decide +kernel
theorem dX6_pass_2 : decode cX6_pass 2 = .ok (.invokevirtual 189, 3) := by decide +kernel
theorem dX6_pass_5 : decode cX6_pass 5 = .ok (.pop, 1) := by decide +kernel
theorem dX6_pass_6 : decode cX6_pass 6 = .ok (.lload_n 2, 1) := by decide +kernel
theorem dX6_pass_7 : decode cX6_pass 7 = .ok (.invokestatic 132, 3) := by decide +kernel
theorem dX6_pass_10 : decode cX6_pass 10 = .ok (.aload_n 0, 1) := by decide +kernel
theorem dX6_pass_11 : decode cX6_pass 11 = .ok (.iload_n 1, 1) := by decide +kernel
theorem dX6_pass_12 : decode cX6_pass 12 = .ok (.invokevirtual 207, 3) := by decide +kernel
theorem dX6_pass_15 : decode cX6_pass 15 = .ok (.lload_n 2, 1) := by decide +kernel
theorem dX6_pass_16 : decode cX6_pass 16 = .ok (.invokevirtual 220, 3) := by decide +kernel
theorem dX6_pass_19 : decode cX6_pass 19 = .ok (.lreturn, 1) := by decide +kernel
set_option maxRecDepth 20000 in
theorem ggX6_left_X6_joinedStreamAt : GoodIn wsX6_left wsX6_joinedStreamAt := goodIn_ca (goodIn_ca (goodIn_r _ [5, 6, 7, 8, 9, 10, 4, 11, 12, 13, 14, 15, 16, 17, 18, 19, 20, 29, 30, 31, 32, 33, 34, 35, 36, 37, 38, 39, 40, 41] (by decide +kernel) (by decide +kernel)) (goodIn_sub (fun _ h => List.mem_cons_of_mem _ (List.mem_append_left _ (List.mem_append_right _ h))) (by decide +kernel))) (goodIn_sub (fun _ h => List.mem_cons_of_mem _ (List.mem_append_right _ h)) (by decide +kernel))
set_option maxRecDepth 20000 in
theorem gX6_left_X6_joinedStreamAt : GoodIn wsX6_left (wsV RX6 207 RX6 yX6_joinedStreamAt wsX6_joinedStreamAt) := goodIn_app (goodIn_of _ (by decide +kernel)) ggX6_left_X6_joinedStreamAt
set_option maxRecDepth 20000 in
theorem ggX6_left_X1_countRestOfPart : GoodIn wsX6_left wsX1_countRestOfPart := goodIn_r _ [24, 25, 20, 26, 27, 28, 36, 37, 38, 39, 40, 41, 42] (by decide +kernel) (by decide +kernel)
set_option maxRecDepth 20000 in
theorem gX6_left_X1_countRestOfPart : GoodIn wsX6_left (wsV RX6 223 RX1 yX1_countRestOfPart wsX1_countRestOfPart) := goodIn_app (goodIn_of _ (by decide +kernel)) ggX6_left_X1_countRestOfPart
theorem dX6_left_0 : decode cX6_left 0 = .ok (.aload_n 0, 1) := by decide +kernel
theorem dX6_left_1 : decode cX6_left 1 = .ok (.iload_n 1, 1) := by decide +kernel
theorem dX6_left_2 : decode cX6_left 2 = .ok (.invokevirtual 207, 3) := by decide +kernel
theorem dX6_left_5 : decode cX6_left 5 = .ok (.invokevirtual 223, 3) := by decide +kernel
theorem dX6_left_8 : decode cX6_left 8 = .ok (.ireturn, 1) := by decide +kernel
set_option maxRecDepth 20000 in
theorem ggX6_passedShare_X6_joinedStreamAt : GoodIn wsX6_passedShare wsX6_joinedStreamAt := goodIn_ca (goodIn_ca (goodIn_r _ [9, 10, 11, 12, 13, 14, 8, 15, 16, 17, 18, 19, 20, 21, 22, 23, 24, 31, 32, 33, 34, 35, 36, 37, 25, 26, 27, 28, 29, 30] (by decide +kernel) (by decide +kernel)) (goodIn_sub (fun _ h => List.mem_cons_of_mem _ (List.mem_append_left _ (List.mem_append_right _ h))) (by decide +kernel))) (goodIn_sub (fun _ h => List.mem_cons_of_mem _ (List.mem_append_right _ h)) (by decide +kernel))
set_option maxRecDepth 20000 in
theorem gX6_passedShare_X6_joinedStreamAt : GoodIn wsX6_passedShare (wsV RX6 207 RX6 yX6_joinedStreamAt wsX6_joinedStreamAt) := goodIn_app (goodIn_of _ (by decide +kernel)) ggX6_passedShare_X6_joinedStreamAt
theorem dX6_passedShare_0 : decode cX6_passedShare 0 = .ok (.aload_n 0, 1) := by decide +kernel
theorem dX6_passedShare_1 : decode cX6_passedShare 1 = .ok (.iload_n 1, 1) := by decide +kernel
theorem dX6_passedShare_2 : decode cX6_passedShare 2 = .ok (.invokevirtual 207, 3) := by decide +kernel
theorem dX6_passedShare_5 : decode cX6_passedShare 5 = .ok (.astore_n 2, 1) := by decide +kernel
theorem dX6_passedShare_6 : decode cX6_passedShare 6 = .ok (.aload_n 2, 1) := by decide +kernel
theorem dX6_passedShare_7 : decode cX6_passedShare 7 = .ok (.getfield 200, 3) := by decide +kernel
theorem dX6_passedShare_10 : decode cX6_passedShare 10 = .ok (.ifCond .ne 13, 3) := by decide +kernel
theorem dX6_passedShare_13 : decode cX6_passedShare 13 = .ok (.new 226, 3) := by decide +kernel
theorem dX6_passedShare_16 : decode cX6_passedShare 16 = .ok (.dup, 1) := by decide +kernel
theorem dX6_passedShare_17 : decode cX6_passedShare 17 = .ok (.ldc 228, 2) := by decide +kernel
theorem dX6_passedShare_19 : decode cX6_passedShare 19 = .ok (.invokespecial 230, 3) := by decide +kernel
theorem dX6_passedShare_22 : decode cX6_passedShare 22 = .ok (.athrow, 1) := by decide +kernel
theorem dX6_passedShare_23 : decode cX6_passedShare 23 = .ok (.aload_n 2, 1) := by decide +kernel
theorem dX6_passedShare_24 : decode cX6_passedShare 24 = .ok (.getfield 231, 3) := by decide +kernel
theorem dX6_passedShare_27 : decode cX6_passedShare 27 = .ok (.i2f, 1) := by decide +kernel
theorem dX6_passedShare_28 : decode cX6_passedShare 28 = .ok (.aload_n 2, 1) := by decide +kernel
theorem dX6_passedShare_29 : decode cX6_passedShare 29 = .ok (.getfield 200, 3) := by decide +kernel
theorem dX6_passedShare_32 : decode cX6_passedShare 32 = .ok (.i2f, 1) := by decide +kernel
theorem dX6_passedShare_33 : decode cX6_passedShare 33 = .ok (.fdiv, 1) := by decide +kernel
theorem dX6_passedShare_34 : decode cX6_passedShare 34 = .ok (.freturn, 1) := by decide +kernel
theorem dX6_meanSize_0 : decode cX6_meanSize 0 = .ok (.iconst 0, 1) := by decide +kernel
theorem dX6_meanSize_1 : decode cX6_meanSize 1 = .ok (.istore_n 1, 1) := by decide +kernel
theorem dX6_meanSize_2 : decode cX6_meanSize 2 = .ok (.iconst 0, 1) := by decide +kernel
theorem dX6_meanSize_3 : decode cX6_meanSize 3 = .ok (.istore_n 2, 1) := by decide +kernel
theorem dX6_meanSize_4 : decode cX6_meanSize 4 = .ok (.iload_n 2, 1) := by decide +kernel
theorem dX6_meanSize_5 : decode cX6_meanSize 5 = .ok (.iconst 3, 1) := by decide +kernel
theorem dX6_meanSize_6 : decode cX6_meanSize 6 = .ok (.if_icmp .ge 31, 3) := by decide +kernel
theorem dX6_meanSize_9 : decode cX6_meanSize 9 = .ok (.iload_n 1, 1) := by decide +kernel
theorem dX6_meanSize_10 : decode cX6_meanSize 10 = .ok (.aload_n 0, 1) := by decide +kernel
theorem dX6_meanSize_11 : decode cX6_meanSize 11 = .ok (.getfield 27, 3) := by decide +kernel
theorem dX6_meanSize_14 : decode cX6_meanSize 14 = .ok (.iload_n 2, 1) := by decide +kernel
theorem dX6_meanSize_15 : decode cX6_meanSize 15 = .ok (.aaload, 1) := by decide +kernel
theorem dX6_meanSize_16 : decode cX6_meanSize 16 = .ok (.getfield 107, 3) := by decide +kernel
theorem dX6_meanSize_19 : decode cX6_meanSize 19 = .ok (.aload_n 0, 1) := by decide +kernel
theorem dX6_meanSize_20 : decode cX6_meanSize 20 = .ok (.getfield 31, 3) := by decide +kernel
theorem dX6_meanSize_23 : decode cX6_meanSize 23 = .ok (.iload_n 2, 1) := by decide +kernel
theorem dX6_meanSize_24 : decode cX6_meanSize 24 = .ok (.aaload, 1) := by decide +kernel
theorem dX6_meanSize_25 : decode cX6_meanSize 25 = .ok (.getfield 107, 3) := by decide +kernel
theorem dX6_meanSize_28 : decode cX6_meanSize 28 = .ok (.iadd, 1) := by decide +kernel
theorem dX6_meanSize_29 : decode cX6_meanSize 29 = .ok (.iadd, 1) := by decide +kernel
theorem dX6_meanSize_30 : decode cX6_meanSize 30 = .ok (.istore_n 1, 1) := by decide +kernel
theorem dX6_meanSize_31 : decode cX6_meanSize 31 = .ok (.iinc 2 1, 3) := by decide +kernel
theorem dX6_meanSize_34 : decode cX6_meanSize 34 = .ok (.goto (-30), 3) := by decide +kernel
theorem dX6_meanSize_37 : decode cX6_meanSize 37 = .ok (.iload_n 1, 1) := by decide +kernel
theorem dX6_meanSize_38 : decode cX6_meanSize 38 = .ok (.i2d, 1) := by decide +kernel
theorem dX6_meanSize_39 : decode cX6_meanSize 39 = .ok (.ldc2_w 234, 3) := by decide +kernel
theorem dX6_meanSize_42 : decode cX6_meanSize 42 = .ok (.ddiv, 1) := by decide +kernel
theorem dX6_meanSize_43 : decode cX6_meanSize 43 = .ok (.dreturn, 1) := by decide +kernel
set_option maxRecDepth 20000 in
theorem ggX6_checksum_X6_addCodes : GoodIn wsX6_checksum wsX6_addCodes := goodIn_ca (goodIn_r _ [15, 10] (by decide +kernel) (by decide +kernel)) (goodIn_sub (fun _ h => List.mem_cons_of_mem _ (List.mem_append_right _ h)) (by decide +kernel))
set_option maxRecDepth 20000 in
theorem gX6_checksum_X6_addCodes : GoodIn wsX6_checksum (va_wsS RX6 238 yX6_addCodes wsX6_addCodes) := goodIn_app (goodIn_of _ (by decide +kernel)) ggX6_checksum_X6_addCodes
set_option maxRecDepth 20000 in
theorem ggX6_checksum_X6_addBytes : GoodIn wsX6_checksum wsX6_addBytes := goodIn_ca (goodIn_r _ [18, 10] (by decide +kernel) (by decide +kernel)) (goodIn_sub (fun _ h => List.mem_cons_of_mem _ (List.mem_append_right _ h)) (by decide +kernel))
set_option maxRecDepth 20000 in
theorem gX6_checksum_X6_addBytes : GoodIn wsX6_checksum (va_wsS RX6 242 yX6_addBytes wsX6_addBytes) := goodIn_app (goodIn_of _ (by decide +kernel)) ggX6_checksum_X6_addBytes
set_option maxRecDepth 20000 in
theorem ggX6_checksum_X1_isJoined : GoodIn wsX6_checksum wsX1_isJoined := goodIn_r _ [23, 24, 44, 45, 46, 47, 48, 49] (by decide +kernel) (by decide +kernel)
set_option maxRecDepth 20000 in
theorem gX6_checksum_X1_isJoined : GoodIn wsX6_checksum (wsV RX6 249 RX1 yX1_isJoined wsX1_isJoined) := goodIn_app (goodIn_of _ (by decide +kernel)) ggX6_checksum_X1_isJoined
set_option maxRecDepth 20000 in
theorem ggX6_checksum_X1_countRestOfPart : GoodIn wsX6_checksum wsX1_countRestOfPart := goodIn_r _ [28, 29, 24, 30, 31, 32, 44, 45, 46, 47, 48, 49, 41] (by decide +kernel) (by decide +kernel)
set_option maxRecDepth 20000 in
theorem gX6_checksum_X1_countRestOfPart : GoodIn wsX6_checksum (wsV RX6 223 RX1 yX1_countRestOfPart wsX1_countRestOfPart) := goodIn_app (goodIn_of _ (by decide +kernel)) ggX6_checksum_X1_countRestOfPart
theorem dX6_checksum_0 : decode cX6_checksum 0 = .ok (.ldc2_w 236, 3) := by decide +kernel
theorem dX6_checksum_3 : decode cX6_checksum 3 = .ok (.lstore_n 1, 1) := by decide +kernel
theorem dX6_checksum_4 : decode cX6_checksum 4 = .ok (.iconst 0, 1) := by decide +kernel
theorem dX6_checksum_5 : decode cX6_checksum 5 = .ok (.istore_n 3, 1) := by decide +kernel
theorem dX6_checksum_6 : decode cX6_checksum 6 = .ok (.iload_n 3, 1) := by decide +kernel
theorem dX6_checksum_7 : decode cX6_checksum 7 = .ok (.iconst 4, 1) := by decide +kernel
theorem dX6_checksum_8 : decode cX6_checksum 8 = .ok (.if_icmp .ge 33, 3) := by decide +kernel
theorem dX6_checksum_11 : decode cX6_checksum 11 = .ok (.lload_n 1, 1) := by decide +kernel
theorem dX6_checksum_12 : decode cX6_checksum 12 = .ok (.aload_n 0, 1) := by decide +kernel
theorem dX6_checksum_13 : decode cX6_checksum 13 = .ok (.getfield 11, 3) := by decide +kernel
theorem dX6_checksum_16 : decode cX6_checksum 16 = .ok (.iload_n 3, 1) := by decide +kernel
theorem dX6_checksum_17 : decode cX6_checksum 17 = .ok (.aaload, 1) := by decide +kernel
theorem dX6_checksum_18 : decode cX6_checksum 18 = .ok (.getfield 60, 3) := by decide +kernel
theorem dX6_checksum_21 : decode cX6_checksum 21 = .ok (.aload_n 0, 1) := by decide +kernel
theorem dX6_checksum_22 : decode cX6_checksum 22 = .ok (.getfield 11, 3) := by decide +kernel
theorem dX6_checksum_25 : decode cX6_checksum 25 = .ok (.iload_n 3, 1) := by decide +kernel
theorem dX6_checksum_26 : decode cX6_checksum 26 = .ok (.aaload, 1) := by decide +kernel
theorem dX6_checksum_27 : decode cX6_checksum 27 = .ok (.getfield 60, 3) := by decide +kernel
theorem dX6_checksum_30 : decode cX6_checksum 30 = .ok (.arraylength, 1) := by decide +kernel
theorem dX6_checksum_31 : decode cX6_checksum 31 = .ok (.invokestatic 238, 3) := by decide +kernel
theorem dX6_checksum_34 : decode cX6_checksum 34 = .ok (.lstore_n 1, 1) := by decide +kernel
theorem dX6_checksum_35 : decode cX6_checksum 35 = .ok (.iinc 3 1, 3) := by decide +kernel
theorem dX6_checksum_38 : decode cX6_checksum 38 = .ok (.goto (-32), 3) := by decide +kernel
theorem dX6_checksum_41 : decode cX6_checksum 41 = .ok (.iconst 0, 1) := by decide +kernel
theorem dX6_checksum_42 : decode cX6_checksum 42 = .ok (.istore_n 3, 1) := by decide +kernel
theorem dX6_checksum_43 : decode cX6_checksum 43 = .ok (.iload_n 3, 1) := by decide +kernel
theorem dX6_checksum_44 : decode cX6_checksum 44 = .ok (.iconst 4, 1) := by decide +kernel
theorem dX6_checksum_45 : decode cX6_checksum 45 = .ok (.if_icmp .ge 23, 3) := by decide +kernel
theorem dX6_checksum_48 : decode cX6_checksum 48 = .ok (.lload_n 1, 1) := by decide +kernel
theorem dX6_checksum_49 : decode cX6_checksum 49 = .ok (.aload_n 0, 1) := by decide +kernel
theorem dX6_checksum_50 : decode cX6_checksum 50 = .ok (.getfield 20, 3) := by decide +kernel
theorem dX6_checksum_53 : decode cX6_checksum 53 = .ok (.iload_n 3, 1) := by decide +kernel
theorem dX6_checksum_54 : decode cX6_checksum 54 = .ok (.aaload, 1) := by decide +kernel
theorem dX6_checksum_55 : decode cX6_checksum 55 = .ok (.getfield 87, 3) := by decide +kernel
theorem dX6_checksum_58 : decode cX6_checksum 58 = .ok (.invokestatic 242, 3) := by decide +kernel
theorem dX6_checksum_61 : decode cX6_checksum 61 = .ok (.lstore_n 1, 1) := by decide +kernel
theorem dX6_checksum_62 : decode cX6_checksum 62 = .ok (.iinc 3 1, 3) := by decide +kernel
theorem dX6_checksum_65 : decode cX6_checksum 65 = .ok (.goto (-22), 3) := by decide +kernel
theorem dX6_checksum_68 : decode cX6_checksum 68 = .ok (.iconst 0, 1) := by decide +kernel
theorem dX6_checksum_69 : decode cX6_checksum 69 = .ok (.istore_n 3, 1) := by decide +kernel
theorem dX6_checksum_70 : decode cX6_checksum 70 = .ok (.iload_n 3, 1) := by decide +kernel
theorem dX6_checksum_71 : decode cX6_checksum 71 = .ok (.iconst 3, 1) := by decide +kernel
theorem dX6_checksum_72 : decode cX6_checksum 72 = .ok (.if_icmp .ge 32, 3) := by decide +kernel
theorem dX6_checksum_75 : decode cX6_checksum 75 = .ok (.lload_n 1, 1) := by decide +kernel
theorem dX6_checksum_76 : decode cX6_checksum 76 = .ok (.aload_n 0, 1) := by decide +kernel
theorem dX6_checksum_77 : decode cX6_checksum 77 = .ok (.getfield 27, 3) := by decide +kernel
theorem dX6_checksum_80 : decode cX6_checksum 80 = .ok (.iload_n 3, 1) := by decide +kernel
theorem dX6_checksum_81 : decode cX6_checksum 81 = .ok (.aaload, 1) := by decide +kernel
theorem dX6_checksum_82 : decode cX6_checksum 82 = .ok (.getfield 246, 3) := by decide +kernel
theorem dX6_checksum_85 : decode cX6_checksum 85 = .ok (.aload_n 0, 1) := by decide +kernel
theorem dX6_checksum_86 : decode cX6_checksum 86 = .ok (.getfield 27, 3) := by decide +kernel
theorem dX6_checksum_89 : decode cX6_checksum 89 = .ok (.iload_n 3, 1) := by decide +kernel
theorem dX6_checksum_90 : decode cX6_checksum 90 = .ok (.aaload, 1) := by decide +kernel
theorem dX6_checksum_91 : decode cX6_checksum 91 = .ok (.getfield 107, 3) := by decide +kernel
theorem dX6_checksum_94 : decode cX6_checksum 94 = .ok (.invokestatic 238, 3) := by decide +kernel
theorem dX6_checksum_97 : decode cX6_checksum 97 = .ok (.lstore_n 1, 1) := by decide +kernel
theorem dX6_checksum_98 : decode cX6_checksum 98 = .ok (.iinc 3 1, 3) := by decide +kernel
theorem dX6_checksum_101 : decode cX6_checksum 101 = .ok (.goto (-31), 3) := by decide +kernel
theorem dX6_checksum_104 : decode cX6_checksum 104 = .ok (.iconst 0, 1) := by decide +kernel
theorem dX6_checksum_105 : decode cX6_checksum 105 = .ok (.istore_n 3, 1) := by decide +kernel
theorem dX6_checksum_106 : decode cX6_checksum 106 = .ok (.iload_n 3, 1) := by decide +kernel
theorem dX6_checksum_107 : decode cX6_checksum 107 = .ok (.iconst 3, 1) := by decide +kernel
theorem dX6_checksum_108 : decode cX6_checksum 108 = .ok (.if_icmp .ge 32, 3) := by decide +kernel
theorem dX6_checksum_111 : decode cX6_checksum 111 = .ok (.lload_n 1, 1) := by decide +kernel
theorem dX6_checksum_112 : decode cX6_checksum 112 = .ok (.aload_n 0, 1) := by decide +kernel
theorem dX6_checksum_113 : decode cX6_checksum 113 = .ok (.getfield 31, 3) := by decide +kernel
theorem dX6_checksum_116 : decode cX6_checksum 116 = .ok (.iload_n 3, 1) := by decide +kernel
theorem dX6_checksum_117 : decode cX6_checksum 117 = .ok (.aaload, 1) := by decide +kernel
theorem dX6_checksum_118 : decode cX6_checksum 118 = .ok (.getfield 246, 3) := by decide +kernel
theorem dX6_checksum_121 : decode cX6_checksum 121 = .ok (.aload_n 0, 1) := by decide +kernel
theorem dX6_checksum_122 : decode cX6_checksum 122 = .ok (.getfield 31, 3) := by decide +kernel
theorem dX6_checksum_125 : decode cX6_checksum 125 = .ok (.iload_n 3, 1) := by decide +kernel
theorem dX6_checksum_126 : decode cX6_checksum 126 = .ok (.aaload, 1) := by decide +kernel
theorem dX6_checksum_127 : decode cX6_checksum 127 = .ok (.getfield 107, 3) := by decide +kernel
theorem dX6_checksum_130 : decode cX6_checksum 130 = .ok (.invokestatic 238, 3) := by decide +kernel
theorem dX6_checksum_133 : decode cX6_checksum 133 = .ok (.lstore_n 1, 1) := by decide +kernel
theorem dX6_checksum_134 : decode cX6_checksum 134 = .ok (.iinc 3 1, 3) := by decide +kernel
theorem dX6_checksum_137 : decode cX6_checksum 137 = .ok (.goto (-31), 3) := by decide +kernel
theorem dX6_checksum_140 : decode cX6_checksum 140 = .ok (.iconst 0, 1) := by decide +kernel
theorem dX6_checksum_141 : decode cX6_checksum 141 = .ok (.istore_n 3, 1) := by decide +kernel
theorem dX6_checksum_142 : decode cX6_checksum 142 = .ok (.iload_n 3, 1) := by decide +kernel
theorem dX6_checksum_143 : decode cX6_checksum 143 = .ok (.iconst 2, 1) := by decide +kernel
theorem dX6_checksum_144 : decode cX6_checksum 144 = .ok (.if_icmp .ge 42, 3) := by decide +kernel
theorem dX6_checksum_147 : decode cX6_checksum 147 = .ok (.ldc2_w 247, 3) := by decide +kernel
theorem dX6_checksum_150 : decode cX6_checksum 150 = .ok (.lload_n 1, 1) := by decide +kernel
theorem dX6_checksum_151 : decode cX6_checksum 151 = .ok (.lmul, 1) := by decide +kernel
theorem dX6_checksum_152 : decode cX6_checksum 152 = .ok (.aload_n 0, 1) := by decide +kernel
theorem dX6_checksum_153 : decode cX6_checksum 153 = .ok (.getfield 44, 3) := by decide +kernel
theorem dX6_checksum_156 : decode cX6_checksum 156 = .ok (.iload_n 3, 1) := by decide +kernel
theorem dX6_checksum_157 : decode cX6_checksum 157 = .ok (.aaload, 1) := by decide +kernel
theorem dX6_checksum_158 : decode cX6_checksum 158 = .ok (.invokevirtual 249, 3) := by decide +kernel
theorem dX6_checksum_161 : decode cX6_checksum 161 = .ok (.ifCond .eq 15, 3) := by decide +kernel
theorem dX6_checksum_164 : decode cX6_checksum 164 = .ok (.aload_n 0, 1) := by decide +kernel
theorem dX6_checksum_165 : decode cX6_checksum 165 = .ok (.getfield 44, 3) := by decide +kernel
theorem dX6_checksum_168 : decode cX6_checksum 168 = .ok (.iload_n 3, 1) := by decide +kernel
theorem dX6_checksum_169 : decode cX6_checksum 169 = .ok (.aaload, 1) := by decide +kernel
theorem dX6_checksum_170 : decode cX6_checksum 170 = .ok (.invokevirtual 223, 3) := by decide +kernel
theorem dX6_checksum_173 : decode cX6_checksum 173 = .ok (.goto 4, 3) := by decide +kernel
theorem dX6_checksum_176 : decode cX6_checksum 176 = .ok (.iconst (-1), 1) := by decide +kernel
theorem dX6_checksum_177 : decode cX6_checksum 177 = .ok (.i2l, 1) := by decide +kernel
theorem dX6_checksum_178 : decode cX6_checksum 178 = .ok (.ladd, 1) := by decide +kernel
theorem dX6_checksum_179 : decode cX6_checksum 179 = .ok (.lstore_n 1, 1) := by decide +kernel
theorem dX6_checksum_180 : decode cX6_checksum 180 = .ok (.iinc 3 1, 3) := by decide +kernel
theorem dX6_checksum_183 : decode cX6_checksum 183 = .ok (.goto (-41), 3) := by decide +kernel
theorem dX6_checksum_186 : decode cX6_checksum 186 = .ok (.lload_n 1, 1) := by decide +kernel
theorem dX6_checksum_187 : decode cX6_checksum 187 = .ok (.lreturn, 1) := by decide +kernel
set_option maxRecDepth 20000 in
theorem ggX6_isTrue_X5_holdsForWriter : GoodIn wsX6_isTrue wsX5_holdsForWriter := goodIn_ca (goodIn_r _ [9, 10, 11, 12, 8, 13, 14, 15, 16, 17, 18, 19, 20, 21, 22, 23, 24, 25, 26, 27, 28, 29, 30, 31, 32, 33, 34, 35, 36, 37, 38, 39, 40, 41, 42, 43, 44, 45, 46, 47, 48, 49, 50, 51, 52, 53, 54, 55, 56, 57, 58, 59, 60, 61, 62, 63, 64, 65, 66, 67, 68, 69, 70, 71, 72, 73, 74, 75, 76, 77, 138, 139, 140, 141, 142, 143, 144, 145, 146, 147, 148, 149, 150, 151, 152, 153, 154] (by decide +kernel) (by decide +kernel)) (goodIn_sub (fun _ h => List.mem_cons_of_mem _ (List.mem_append_right _ h)) (by decide +kernel))
set_option maxRecDepth 20000 in
theorem gX6_isTrue_X5_holdsForWriter : GoodIn wsX6_isTrue (wsV RX6 253 RX5 yX5_holdsForWriter wsX5_holdsForWriter) := goodIn_app (goodIn_of _ (by decide +kernel)) ggX6_isTrue_X5_holdsForWriter
set_option maxRecDepth 20000 in
theorem ggX6_isTrue_X5_holdsForRows : GoodIn wsX6_isTrue wsX5_holdsForRows := goodIn_ca (goodIn_r _ [81, 82, 83, 84, 85, 86, 8, 87, 88, 89, 90, 91, 92, 93, 94, 95, 96, 97, 98, 99, 100, 101, 102, 103, 104, 105, 106, 107, 108, 109, 110, 111, 112, 113, 114, 115, 116, 117, 118, 119, 120, 121, 122, 123, 124, 125, 126, 127, 128, 129, 130, 39, 40, 41, 155, 140, 141, 142, 143, 144, 145, 146, 147, 156, 157, 158, 159, 160, 161] (by decide +kernel) (by decide +kernel)) (goodIn_sub (fun _ h => List.mem_cons_of_mem _ (List.mem_append_right _ h)) (by decide +kernel))
set_option maxRecDepth 20000 in
theorem gX6_isTrue_X5_holdsForRows : GoodIn wsX6_isTrue (wsV RX6 256 RX5 yX5_holdsForRows wsX5_holdsForRows) := goodIn_app (goodIn_of _ (by decide +kernel)) ggX6_isTrue_X5_holdsForRows
theorem dX6_isTrue_0 : decode cX6_isTrue 0 = .ok (.iconst 0, 1) := by decide +kernel
theorem dX6_isTrue_1 : decode cX6_isTrue 1 = .ok (.istore_n 1, 1) := by decide +kernel
theorem dX6_isTrue_2 : decode cX6_isTrue 2 = .ok (.iload_n 1, 1) := by decide +kernel
theorem dX6_isTrue_3 : decode cX6_isTrue 3 = .ok (.iconst 3, 1) := by decide +kernel
theorem dX6_isTrue_4 : decode cX6_isTrue 4 = .ok (.if_icmp .ge 43, 3) := by decide +kernel
theorem dX6_isTrue_7 : decode cX6_isTrue 7 = .ok (.aload_n 0, 1) := by decide +kernel
theorem dX6_isTrue_8 : decode cX6_isTrue 8 = .ok (.getfield 52, 3) := by decide +kernel
theorem dX6_isTrue_11 : decode cX6_isTrue 11 = .ok (.aload_n 0, 1) := by decide +kernel
theorem dX6_isTrue_12 : decode cX6_isTrue 12 = .ok (.getfield 27, 3) := by decide +kernel
theorem dX6_isTrue_15 : decode cX6_isTrue 15 = .ok (.iload_n 1, 1) := by decide +kernel
theorem dX6_isTrue_16 : decode cX6_isTrue 16 = .ok (.aaload, 1) := by decide +kernel
theorem dX6_isTrue_17 : decode cX6_isTrue 17 = .ok (.invokevirtual 253, 3) := by decide +kernel
theorem dX6_isTrue_20 : decode cX6_isTrue 20 = .ok (.ifCond .eq 19, 3) := by decide +kernel
theorem dX6_isTrue_23 : decode cX6_isTrue 23 = .ok (.aload_n 0, 1) := by decide +kernel
theorem dX6_isTrue_24 : decode cX6_isTrue 24 = .ok (.getfield 52, 3) := by decide +kernel
theorem dX6_isTrue_27 : decode cX6_isTrue 27 = .ok (.aload_n 0, 1) := by decide +kernel
theorem dX6_isTrue_28 : decode cX6_isTrue 28 = .ok (.getfield 31, 3) := by decide +kernel
theorem dX6_isTrue_31 : decode cX6_isTrue 31 = .ok (.iload_n 1, 1) := by decide +kernel
theorem dX6_isTrue_32 : decode cX6_isTrue 32 = .ok (.aaload, 1) := by decide +kernel
theorem dX6_isTrue_33 : decode cX6_isTrue 33 = .ok (.invokevirtual 253, 3) := by decide +kernel
theorem dX6_isTrue_36 : decode cX6_isTrue 36 = .ok (.ifCond .ne 5, 3) := by decide +kernel
theorem dX6_isTrue_39 : decode cX6_isTrue 39 = .ok (.iconst 0, 1) := by decide +kernel
theorem dX6_isTrue_40 : decode cX6_isTrue 40 = .ok (.ireturn, 1) := by decide +kernel
theorem dX6_isTrue_41 : decode cX6_isTrue 41 = .ok (.iinc 1 1, 3) := by decide +kernel
theorem dX6_isTrue_44 : decode cX6_isTrue 44 = .ok (.goto (-42), 3) := by decide +kernel
theorem dX6_isTrue_47 : decode cX6_isTrue 47 = .ok (.iconst 0, 1) := by decide +kernel
theorem dX6_isTrue_48 : decode cX6_isTrue 48 = .ok (.istore_n 1, 1) := by decide +kernel
theorem dX6_isTrue_49 : decode cX6_isTrue 49 = .ok (.iload_n 1, 1) := by decide +kernel
theorem dX6_isTrue_50 : decode cX6_isTrue 50 = .ok (.iconst 4, 1) := by decide +kernel
theorem dX6_isTrue_51 : decode cX6_isTrue 51 = .ok (.if_icmp .ge 51, 3) := by decide +kernel
theorem dX6_isTrue_54 : decode cX6_isTrue 54 = .ok (.aload_n 0, 1) := by decide +kernel
theorem dX6_isTrue_55 : decode cX6_isTrue 55 = .ok (.getfield 20, 3) := by decide +kernel
theorem dX6_isTrue_58 : decode cX6_isTrue 58 = .ok (.iload_n 1, 1) := by decide +kernel
theorem dX6_isTrue_59 : decode cX6_isTrue 59 = .ok (.iconst 1, 1) := by decide +kernel
theorem dX6_isTrue_60 : decode cX6_isTrue 60 = .ok (.iadd, 1) := by decide +kernel
theorem dX6_isTrue_61 : decode cX6_isTrue 61 = .ok (.iconst 4, 1) := by decide +kernel
theorem dX6_isTrue_62 : decode cX6_isTrue 62 = .ok (.irem, 1) := by decide +kernel
theorem dX6_isTrue_63 : decode cX6_isTrue 63 = .ok (.aaload, 1) := by decide +kernel
theorem dX6_isTrue_64 : decode cX6_isTrue 64 = .ok (.astore_n 2, 1) := by decide +kernel
theorem dX6_isTrue_65 : decode cX6_isTrue 65 = .ok (.aload_n 0, 1) := by decide +kernel
theorem dX6_isTrue_66 : decode cX6_isTrue 66 = .ok (.getfield 20, 3) := by decide +kernel
theorem dX6_isTrue_69 : decode cX6_isTrue 69 = .ok (.iload_n 1, 1) := by decide +kernel
theorem dX6_isTrue_70 : decode cX6_isTrue 70 = .ok (.iconst 2, 1) := by decide +kernel
theorem dX6_isTrue_71 : decode cX6_isTrue 71 = .ok (.iadd, 1) := by decide +kernel
theorem dX6_isTrue_72 : decode cX6_isTrue 72 = .ok (.iconst 4, 1) := by decide +kernel
theorem dX6_isTrue_73 : decode cX6_isTrue 73 = .ok (.irem, 1) := by decide +kernel
theorem dX6_isTrue_74 : decode cX6_isTrue 74 = .ok (.aaload, 1) := by decide +kernel
theorem dX6_isTrue_75 : decode cX6_isTrue 75 = .ok (.astore_n 3, 1) := by decide +kernel
theorem dX6_isTrue_76 : decode cX6_isTrue 76 = .ok (.aload_n 0, 1) := by decide +kernel
theorem dX6_isTrue_77 : decode cX6_isTrue 77 = .ok (.getfield 52, 3) := by decide +kernel
theorem dX6_isTrue_80 : decode cX6_isTrue 80 = .ok (.aload_n 0, 1) := by decide +kernel
theorem dX6_isTrue_81 : decode cX6_isTrue 81 = .ok (.getfield 20, 3) := by decide +kernel
theorem dX6_isTrue_84 : decode cX6_isTrue 84 = .ok (.iload_n 1, 1) := by decide +kernel
theorem dX6_isTrue_85 : decode cX6_isTrue 85 = .ok (.aaload, 1) := by decide +kernel
theorem dX6_isTrue_86 : decode cX6_isTrue 86 = .ok (.aload_n 2, 1) := by decide +kernel
theorem dX6_isTrue_87 : decode cX6_isTrue 87 = .ok (.aload_n 3, 1) := by decide +kernel
theorem dX6_isTrue_88 : decode cX6_isTrue 88 = .ok (.invokevirtual 256, 3) := by decide +kernel
theorem dX6_isTrue_91 : decode cX6_isTrue 91 = .ok (.ifCond .ne 5, 3) := by decide +kernel
theorem dX6_isTrue_94 : decode cX6_isTrue 94 = .ok (.iconst 0, 1) := by decide +kernel
theorem dX6_isTrue_95 : decode cX6_isTrue 95 = .ok (.ireturn, 1) := by decide +kernel
theorem dX6_isTrue_96 : decode cX6_isTrue 96 = .ok (.iinc 1 1, 3) := by decide +kernel
theorem dX6_isTrue_99 : decode cX6_isTrue 99 = .ok (.goto (-50), 3) := by decide +kernel
theorem dX6_isTrue_102 : decode cX6_isTrue 102 = .ok (.iconst 1, 1) := by decide +kernel
theorem dX6_isTrue_103 : decode cX6_isTrue 103 = .ok (.ireturn, 1) := by decide +kernel
theorem dX6_signRowAt_0 : decode cX6_signRowAt 0 = .ok (.iload_n 1, 1) := by decide +kernel
theorem dX6_signRowAt_1 : decode cX6_signRowAt 1 = .ok (.ifCond .lt 8, 3) := by decide +kernel
theorem dX6_signRowAt_4 : decode cX6_signRowAt 4 = .ok (.iload_n 1, 1) := by decide +kernel
theorem dX6_signRowAt_5 : decode cX6_signRowAt 5 = .ok (.iconst 4, 1) := by decide +kernel
theorem dX6_signRowAt_6 : decode cX6_signRowAt 6 = .ok (.if_icmp .lt 14, 3) := by decide +kernel
theorem dX6_signRowAt_9 : decode cX6_signRowAt 9 = .ok (.new 260, 3) := by decide +kernel
theorem dX6_signRowAt_12 : decode cX6_signRowAt 12 = .ok (.dup, 1) := by decide +kernel
theorem dX6_signRowAt_13 : decode cX6_signRowAt 13 = .ok (.ldc_w 262, 3) := by decide +kernel
theorem dX6_signRowAt_16 : decode cX6_signRowAt 16 = .ok (.invokespecial 264, 3) := by decide +kernel
theorem dX6_signRowAt_19 : decode cX6_signRowAt 19 = .ok (.athrow, 1) := by decide +kernel
theorem dX6_signRowAt_20 : decode cX6_signRowAt 20 = .ok (.aload_n 0, 1) := by decide +kernel
theorem dX6_signRowAt_21 : decode cX6_signRowAt 21 = .ok (.getfield 11, 3) := by decide +kernel
theorem dX6_signRowAt_24 : decode cX6_signRowAt 24 = .ok (.iload_n 1, 1) := by decide +kernel
theorem dX6_signRowAt_25 : decode cX6_signRowAt 25 = .ok (.aaload, 1) := by decide +kernel
theorem dX6_signRowAt_26 : decode cX6_signRowAt 26 = .ok (.areturn, 1) := by decide +kernel
theorem dX6_byteRowAt_0 : decode cX6_byteRowAt 0 = .ok (.iload_n 1, 1) := by decide +kernel
theorem dX6_byteRowAt_1 : decode cX6_byteRowAt 1 = .ok (.ifCond .lt 8, 3) := by decide +kernel
theorem dX6_byteRowAt_4 : decode cX6_byteRowAt 4 = .ok (.iload_n 1, 1) := by decide +kernel
theorem dX6_byteRowAt_5 : decode cX6_byteRowAt 5 = .ok (.iconst 4, 1) := by decide +kernel
theorem dX6_byteRowAt_6 : decode cX6_byteRowAt 6 = .ok (.if_icmp .lt 14, 3) := by decide +kernel
theorem dX6_byteRowAt_9 : decode cX6_byteRowAt 9 = .ok (.new 260, 3) := by decide +kernel
theorem dX6_byteRowAt_12 : decode cX6_byteRowAt 12 = .ok (.dup, 1) := by decide +kernel
theorem dX6_byteRowAt_13 : decode cX6_byteRowAt 13 = .ok (.ldc_w 265, 3) := by decide +kernel
theorem dX6_byteRowAt_16 : decode cX6_byteRowAt 16 = .ok (.invokespecial 264, 3) := by decide +kernel
theorem dX6_byteRowAt_19 : decode cX6_byteRowAt 19 = .ok (.athrow, 1) := by decide +kernel
theorem dX6_byteRowAt_20 : decode cX6_byteRowAt 20 = .ok (.aload_n 0, 1) := by decide +kernel
theorem dX6_byteRowAt_21 : decode cX6_byteRowAt 21 = .ok (.getfield 20, 3) := by decide +kernel
theorem dX6_byteRowAt_24 : decode cX6_byteRowAt 24 = .ok (.iload_n 1, 1) := by decide +kernel
theorem dX6_byteRowAt_25 : decode cX6_byteRowAt 25 = .ok (.aaload, 1) := by decide +kernel
theorem dX6_byteRowAt_26 : decode cX6_byteRowAt 26 = .ok (.areturn, 1) := by decide +kernel
theorem dX6_textWriterAt_0 : decode cX6_textWriterAt 0 = .ok (.iload_n 1, 1) := by decide +kernel
theorem dX6_textWriterAt_1 : decode cX6_textWriterAt 1 = .ok (.ifCond .lt 8, 3) := by decide +kernel
theorem dX6_textWriterAt_4 : decode cX6_textWriterAt 4 = .ok (.iload_n 1, 1) := by decide +kernel
theorem dX6_textWriterAt_5 : decode cX6_textWriterAt 5 = .ok (.iconst 3, 1) := by decide +kernel
theorem dX6_textWriterAt_6 : decode cX6_textWriterAt 6 = .ok (.if_icmp .lt 14, 3) := by decide +kernel
theorem dX6_textWriterAt_9 : decode cX6_textWriterAt 9 = .ok (.new 260, 3) := by decide +kernel
theorem dX6_textWriterAt_12 : decode cX6_textWriterAt 12 = .ok (.dup, 1) := by decide +kernel
theorem dX6_textWriterAt_13 : decode cX6_textWriterAt 13 = .ok (.ldc_w 267, 3) := by decide +kernel
theorem dX6_textWriterAt_16 : decode cX6_textWriterAt 16 = .ok (.invokespecial 264, 3) := by decide +kernel
theorem dX6_textWriterAt_19 : decode cX6_textWriterAt 19 = .ok (.athrow, 1) := by decide +kernel
theorem dX6_textWriterAt_20 : decode cX6_textWriterAt 20 = .ok (.aload_n 0, 1) := by decide +kernel
theorem dX6_textWriterAt_21 : decode cX6_textWriterAt 21 = .ok (.getfield 27, 3) := by decide +kernel
theorem dX6_textWriterAt_24 : decode cX6_textWriterAt 24 = .ok (.iload_n 1, 1) := by decide +kernel
theorem dX6_textWriterAt_25 : decode cX6_textWriterAt 25 = .ok (.aaload, 1) := by decide +kernel
theorem dX6_textWriterAt_26 : decode cX6_textWriterAt 26 = .ok (.areturn, 1) := by decide +kernel
theorem dX6_arrayWriterAt_0 : decode cX6_arrayWriterAt 0 = .ok (.iload_n 1, 1) := by decide +kernel
theorem dX6_arrayWriterAt_1 : decode cX6_arrayWriterAt 1 = .ok (.ifCond .lt 8, 3) := by decide +kernel
theorem dX6_arrayWriterAt_4 : decode cX6_arrayWriterAt 4 = .ok (.iload_n 1, 1) := by decide +kernel
theorem dX6_arrayWriterAt_5 : decode cX6_arrayWriterAt 5 = .ok (.iconst 3, 1) := by decide +kernel
theorem dX6_arrayWriterAt_6 : decode cX6_arrayWriterAt 6 = .ok (.if_icmp .lt 14, 3) := by decide +kernel
theorem dX6_arrayWriterAt_9 : decode cX6_arrayWriterAt 9 = .ok (.new 260, 3) := by decide +kernel
theorem dX6_arrayWriterAt_12 : decode cX6_arrayWriterAt 12 = .ok (.dup, 1) := by decide +kernel
theorem dX6_arrayWriterAt_13 : decode cX6_arrayWriterAt 13 = .ok (.ldc_w 269, 3) := by decide +kernel
theorem dX6_arrayWriterAt_16 : decode cX6_arrayWriterAt 16 = .ok (.invokespecial 264, 3) := by decide +kernel
theorem dX6_arrayWriterAt_19 : decode cX6_arrayWriterAt 19 = .ok (.athrow, 1) := by decide +kernel
theorem dX6_arrayWriterAt_20 : decode cX6_arrayWriterAt 20 = .ok (.aload_n 0, 1) := by decide +kernel
theorem dX6_arrayWriterAt_21 : decode cX6_arrayWriterAt 21 = .ok (.getfield 31, 3) := by decide +kernel
theorem dX6_arrayWriterAt_24 : decode cX6_arrayWriterAt 24 = .ok (.iload_n 1, 1) := by decide +kernel
theorem dX6_arrayWriterAt_25 : decode cX6_arrayWriterAt 25 = .ok (.aaload, 1) := by decide +kernel
theorem dX6_arrayWriterAt_26 : decode cX6_arrayWriterAt 26 = .ok (.areturn, 1) := by decide +kernel
theorem dX6_readerAt_0 : decode cX6_readerAt 0 = .ok (.iload_n 1, 1) := by decide +kernel
theorem dX6_readerAt_1 : decode cX6_readerAt 1 = .ok (.ifCond .lt 8, 3) := by decide +kernel
theorem dX6_readerAt_4 : decode cX6_readerAt 4 = .ok (.iload_n 1, 1) := by decide +kernel
theorem dX6_readerAt_5 : decode cX6_readerAt 5 = .ok (.iconst 3, 1) := by decide +kernel
theorem dX6_readerAt_6 : decode cX6_readerAt 6 = .ok (.if_icmp .lt 14, 3) := by decide +kernel
theorem dX6_readerAt_9 : decode cX6_readerAt 9 = .ok (.new 260, 3) := by decide +kernel
theorem dX6_readerAt_12 : decode cX6_readerAt 12 = .ok (.dup, 1) := by decide +kernel
theorem dX6_readerAt_13 : decode cX6_readerAt 13 = .ok (.ldc_w 271, 3) := by decide +kernel
theorem dX6_readerAt_16 : decode cX6_readerAt 16 = .ok (.invokespecial 264, 3) := by decide +kernel
theorem dX6_readerAt_19 : decode cX6_readerAt 19 = .ok (.athrow, 1) := by decide +kernel
theorem dX6_readerAt_20 : decode cX6_readerAt 20 = .ok (.aload_n 0, 1) := by decide +kernel
theorem dX6_readerAt_21 : decode cX6_readerAt 21 = .ok (.getfield 37, 3) := by decide +kernel
theorem dX6_readerAt_24 : decode cX6_readerAt 24 = .ok (.iload_n 1, 1) := by decide +kernel
theorem dX6_readerAt_25 : decode cX6_readerAt 25 = .ok (.aaload, 1) := by decide +kernel
theorem dX6_readerAt_26 : decode cX6_readerAt 26 = .ok (.areturn, 1) := by decide +kernel
set_option maxRecDepth 20000 in
theorem ggX6_openReaderAt_X6_readerAt : GoodIn wsX6_openReaderAt wsX6_readerAt := goodIn_ca (goodIn_r _ [9, 10, 11, 12, 19, 20, 21, 22, 23, 24, 25] (by decide +kernel) (by decide +kernel)) (goodIn_sub (fun _ h => List.mem_cons_of_mem _ (List.mem_append_right _ h)) (by decide +kernel))
set_option maxRecDepth 20000 in
theorem gX6_openReaderAt_X6_readerAt : GoodIn wsX6_openReaderAt (wsV RX6 128 RX6 yX6_readerAt wsX6_readerAt) := goodIn_app (goodIn_of _ (by decide +kernel)) ggX6_openReaderAt_X6_readerAt
theorem dX6_openReaderAt_0 : decode cX6_openReaderAt 0 = .ok (.aload_n 0, 1) := by decide +kernel
theorem dX6_openReaderAt_1 : decode cX6_openReaderAt 1 = .ok (.iload_n 1, 1) := by decide +kernel
theorem dX6_openReaderAt_2 : decode cX6_openReaderAt 2 = .ok (.invokevirtual 128, 3) := by decide +kernel
theorem dX6_openReaderAt_5 : decode cX6_openReaderAt 5 = .ok (.astore_n 2, 1) := by decide +kernel
theorem dX6_openReaderAt_6 : decode cX6_openReaderAt 6 = .ok (.aload_n 2, 1) := by decide +kernel
theorem dX6_openReaderAt_7 : decode cX6_openReaderAt 7 = .ok (.getfield 143, 3) := by decide +kernel
theorem dX6_openReaderAt_10 : decode cX6_openReaderAt 10 = .ok (.ifCond .eq 10, 3) := by decide +kernel
theorem dX6_openReaderAt_13 : decode cX6_openReaderAt 13 = .ok (.aload_n 2, 1) := by decide +kernel
theorem dX6_openReaderAt_14 : decode cX6_openReaderAt 14 = .ok (.getfield 152, 3) := by decide +kernel
theorem dX6_openReaderAt_17 : decode cX6_openReaderAt 17 = .ok (.ifCond .eq 14, 3) := by decide +kernel
theorem dX6_openReaderAt_20 : decode cX6_openReaderAt 20 = .ok (.new 147, 3) := by decide +kernel
theorem dX6_openReaderAt_23 : decode cX6_openReaderAt 23 = .ok (.dup, 1) := by decide +kernel
theorem dX6_openReaderAt_24 : decode cX6_openReaderAt 24 = .ok (.ldc_w 273, 3) := by decide +kernel
theorem dX6_openReaderAt_27 : decode cX6_openReaderAt 27 = .ok (.invokespecial 151, 3) := by decide +kernel
theorem dX6_openReaderAt_30 : decode cX6_openReaderAt 30 = .ok (.athrow, 1) := by decide +kernel
theorem dX6_openReaderAt_31 : decode cX6_openReaderAt 31 = .ok (.aload_n 2, 1) := by decide +kernel
theorem dX6_openReaderAt_32 : decode cX6_openReaderAt 32 = .ok (.areturn, 1) := by decide +kernel
theorem dX6_streamAt_0 : decode cX6_streamAt 0 = .ok (.iload_n 1, 1) := by decide +kernel
theorem dX6_streamAt_1 : decode cX6_streamAt 1 = .ok (.ifCond .lt 8, 3) := by decide +kernel
theorem dX6_streamAt_4 : decode cX6_streamAt 4 = .ok (.iload_n 1, 1) := by decide +kernel
theorem dX6_streamAt_5 : decode cX6_streamAt 5 = .ok (.iconst 2, 1) := by decide +kernel
theorem dX6_streamAt_6 : decode cX6_streamAt 6 = .ok (.if_icmp .lt 14, 3) := by decide +kernel
theorem dX6_streamAt_9 : decode cX6_streamAt 9 = .ok (.new 260, 3) := by decide +kernel
theorem dX6_streamAt_12 : decode cX6_streamAt 12 = .ok (.dup, 1) := by decide +kernel
theorem dX6_streamAt_13 : decode cX6_streamAt 13 = .ok (.ldc_w 275, 3) := by decide +kernel
theorem dX6_streamAt_16 : decode cX6_streamAt 16 = .ok (.invokespecial 264, 3) := by decide +kernel
theorem dX6_streamAt_19 : decode cX6_streamAt 19 = .ok (.athrow, 1) := by decide +kernel
theorem dX6_streamAt_20 : decode cX6_streamAt 20 = .ok (.aload_n 0, 1) := by decide +kernel
theorem dX6_streamAt_21 : decode cX6_streamAt 21 = .ok (.getfield 44, 3) := by decide +kernel
theorem dX6_streamAt_24 : decode cX6_streamAt 24 = .ok (.iload_n 1, 1) := by decide +kernel
theorem dX6_streamAt_25 : decode cX6_streamAt 25 = .ok (.aaload, 1) := by decide +kernel
theorem dX6_streamAt_26 : decode cX6_streamAt 26 = .ok (.areturn, 1) := by decide +kernel
set_option maxRecDepth 20000 in
theorem ggX6_joinedStreamAt_X6_streamAt : GoodIn wsX6_joinedStreamAt wsX6_streamAt := goodIn_ca (goodIn_r _ [7, 8, 9, 10, 17, 18, 19, 20, 21, 22, 23] (by decide +kernel) (by decide +kernel)) (goodIn_sub (fun _ h => List.mem_cons_of_mem _ (List.mem_append_right _ h)) (by decide +kernel))
set_option maxRecDepth 20000 in
theorem gX6_joinedStreamAt_X6_streamAt : GoodIn wsX6_joinedStreamAt (wsV RX6 189 RX6 yX6_streamAt wsX6_streamAt) := goodIn_app (goodIn_of _ (by decide +kernel)) ggX6_joinedStreamAt_X6_streamAt
set_option maxRecDepth 20000 in
theorem ggX6_joinedStreamAt_X1_isJoined : GoodIn wsX6_joinedStreamAt wsX1_isJoined := goodIn_r _ [15, 16, 24, 25, 26, 27, 28, 29] (by decide +kernel) (by decide +kernel)
set_option maxRecDepth 20000 in
theorem gX6_joinedStreamAt_X1_isJoined : GoodIn wsX6_joinedStreamAt (wsV RX6 249 RX1 yX1_isJoined wsX1_isJoined) := goodIn_app (goodIn_of _ (by decide +kernel)) ggX6_joinedStreamAt_X1_isJoined
theorem dX6_joinedStreamAt_0 : decode cX6_joinedStreamAt 0 = .ok (.aload_n 0, 1) := by decide +kernel
theorem dX6_joinedStreamAt_1 : decode cX6_joinedStreamAt 1 = .ok (.iload_n 1, 1) := by decide +kernel
theorem dX6_joinedStreamAt_2 : decode cX6_joinedStreamAt 2 = .ok (.invokevirtual 189, 3) := by decide +kernel
theorem dX6_joinedStreamAt_5 : decode cX6_joinedStreamAt 5 = .ok (.astore_n 2, 1) := by decide +kernel
theorem dX6_joinedStreamAt_6 : decode cX6_joinedStreamAt 6 = .ok (.aload_n 2, 1) := by decide +kernel
theorem dX6_joinedStreamAt_7 : decode cX6_joinedStreamAt 7 = .ok (.invokevirtual 249, 3) := by decide +kernel
theorem dX6_joinedStreamAt_10 : decode cX6_joinedStreamAt 10 = .ok (.ifCond .ne 14, 3) := by decide +kernel
theorem dX6_joinedStreamAt_13 : decode cX6_joinedStreamAt 13 = .ok (.new 147, 3) := by decide +kernel
theorem dX6_joinedStreamAt_16 : decode cX6_joinedStreamAt 16 = .ok (.dup, 1) := by decide +kernel
theorem dX6_joinedStreamAt_17 : decode cX6_joinedStreamAt 17 = .ok (.ldc_w 277, 3) := by decide +kernel
theorem dX6_joinedStreamAt_20 : decode cX6_joinedStreamAt 20 = .ok (.invokespecial 151, 3) := by decide +kernel
theorem dX6_joinedStreamAt_23 : decode cX6_joinedStreamAt 23 = .ok (.athrow, 1) := by decide +kernel
theorem dX6_joinedStreamAt_24 : decode cX6_joinedStreamAt 24 = .ok (.aload_n 2, 1) := by decide +kernel
theorem dX6_joinedStreamAt_25 : decode cX6_joinedStreamAt 25 = .ok (.areturn, 1) := by decide +kernel
theorem dX6_requirePlace_0 : decode cX6_requirePlace 0 = .ok (.iload_n 0, 1) := by decide +kernel
theorem dX6_requirePlace_1 : decode cX6_requirePlace 1 = .ok (.ifCond .lt 8, 3) := by decide +kernel
theorem dX6_requirePlace_4 : decode cX6_requirePlace 4 = .ok (.iload_n 0, 1) := by decide +kernel
theorem dX6_requirePlace_5 : decode cX6_requirePlace 5 = .ok (.iload_n 1, 1) := by decide +kernel
theorem dX6_requirePlace_6 : decode cX6_requirePlace 6 = .ok (.if_icmp .lt 14, 3) := by decide +kernel
theorem dX6_requirePlace_9 : decode cX6_requirePlace 9 = .ok (.new 260, 3) := by decide +kernel
theorem dX6_requirePlace_12 : decode cX6_requirePlace 12 = .ok (.dup, 1) := by decide +kernel
theorem dX6_requirePlace_13 : decode cX6_requirePlace 13 = .ok (.ldc_w 279, 3) := by decide +kernel
theorem dX6_requirePlace_16 : decode cX6_requirePlace 16 = .ok (.invokespecial 264, 3) := by decide +kernel
theorem dX6_requirePlace_19 : decode cX6_requirePlace 19 = .ok (.athrow, 1) := by decide +kernel
theorem dX6_requirePlace_20 : decode cX6_requirePlace 20 = .ok (.return_, 1) := by decide +kernel
theorem dX6_requirePlaces_0 : decode cX6_requirePlaces 0 = .ok (.iload_n 0, 1) := by decide +kernel
theorem dX6_requirePlaces_1 : decode cX6_requirePlaces 1 = .ok (.ifCond .lt 19, 3) := by decide +kernel
theorem dX6_requirePlaces_4 : decode cX6_requirePlaces 4 = .ok (.iload_n 1, 1) := by decide +kernel
theorem dX6_requirePlaces_5 : decode cX6_requirePlaces 5 = .ok (.ifCond .lt 15, 3) := by decide +kernel
theorem dX6_requirePlaces_8 : decode cX6_requirePlaces 8 = .ok (.iload_n 0, 1) := by decide +kernel
theorem dX6_requirePlaces_9 : decode cX6_requirePlaces 9 = .ok (.iload_n 2, 1) := by decide +kernel
theorem dX6_requirePlaces_10 : decode cX6_requirePlaces 10 = .ok (.if_icmp .gt 10, 3) := by decide +kernel
theorem dX6_requirePlaces_13 : decode cX6_requirePlaces 13 = .ok (.iload_n 1, 1) := by decide +kernel
theorem dX6_requirePlaces_14 : decode cX6_requirePlaces 14 = .ok (.iload_n 2, 1) := by decide +kernel
theorem dX6_requirePlaces_15 : decode cX6_requirePlaces 15 = .ok (.iload_n 0, 1) := by decide +kernel
theorem dX6_requirePlaces_16 : decode cX6_requirePlaces 16 = .ok (.isub, 1) := by decide +kernel
theorem dX6_requirePlaces_17 : decode cX6_requirePlaces 17 = .ok (.if_icmp .le 14, 3) := by decide +kernel
theorem dX6_requirePlaces_20 : decode cX6_requirePlaces 20 = .ok (.new 260, 3) := by decide +kernel
theorem dX6_requirePlaces_23 : decode cX6_requirePlaces 23 = .ok (.dup, 1) := by decide +kernel
theorem dX6_requirePlaces_24 : decode cX6_requirePlaces 24 = .ok (.ldc_w 281, 3) := by decide +kernel
theorem dX6_requirePlaces_27 : decode cX6_requirePlaces 27 = .ok (.invokespecial 264, 3) := by decide +kernel
theorem dX6_requirePlaces_30 : decode cX6_requirePlaces 30 = .ok (.athrow, 1) := by decide +kernel
theorem dX6_requirePlaces_31 : decode cX6_requirePlaces 31 = .ok (.return_, 1) := by decide +kernel
theorem dX6_requireSome_0 : decode cX6_requireSome 0 = .ok (.iload_n 0, 1) := by decide +kernel
theorem dX6_requireSome_1 : decode cX6_requireSome 1 = .ok (.iconst 1, 1) := by decide +kernel
theorem dX6_requireSome_2 : decode cX6_requireSome 2 = .ok (.if_icmp .ge 14, 3) := by decide +kernel
theorem dX6_requireSome_5 : decode cX6_requireSome 5 = .ok (.new 64, 3) := by decide +kernel
theorem dX6_requireSome_8 : decode cX6_requireSome 8 = .ok (.dup, 1) := by decide +kernel
theorem dX6_requireSome_9 : decode cX6_requireSome 9 = .ok (.ldc_w 283, 3) := by decide +kernel
theorem dX6_requireSome_12 : decode cX6_requireSome 12 = .ok (.invokespecial 68, 3) := by decide +kernel
theorem dX6_requireSome_15 : decode cX6_requireSome 15 = .ok (.athrow, 1) := by decide +kernel
theorem dX6_requireSome_16 : decode cX6_requireSome 16 = .ok (.return_, 1) := by decide +kernel
theorem dX6_requireWanted_0 : decode cX6_requireWanted 0 = .ok (.lload_n 0, 1) := by decide +kernel
theorem dX6_requireWanted_1 : decode cX6_requireWanted 1 = .ok (.lconst 0, 1) := by decide +kernel
theorem dX6_requireWanted_2 : decode cX6_requireWanted 2 = .ok (.lcmp, 1) := by decide +kernel
theorem dX6_requireWanted_3 : decode cX6_requireWanted 3 = .ok (.ifCond .lt 11, 3) := by decide +kernel
theorem dX6_requireWanted_6 : decode cX6_requireWanted 6 = .ok (.lload_n 0, 1) := by decide +kernel
theorem dX6_requireWanted_7 : decode cX6_requireWanted 7 = .ok (.ldc2_w 285, 3) := by decide +kernel
theorem dX6_requireWanted_10 : decode cX6_requireWanted 10 = .ok (.lcmp, 1) := by decide +kernel
theorem dX6_requireWanted_11 : decode cX6_requireWanted 11 = .ok (.ifCond .le 14, 3) := by decide +kernel
theorem dX6_requireWanted_14 : decode cX6_requireWanted 14 = .ok (.new 64, 3) := by decide +kernel
theorem dX6_requireWanted_17 : decode cX6_requireWanted 17 = .ok (.dup, 1) := by decide +kernel
theorem dX6_requireWanted_18 : decode cX6_requireWanted 18 = .ok (.ldc_w 287, 3) := by decide +kernel
theorem dX6_requireWanted_21 : decode cX6_requireWanted 21 = .ok (.invokespecial 68, 3) := by decide +kernel
theorem dX6_requireWanted_24 : decode cX6_requireWanted 24 = .ok (.athrow, 1) := by decide +kernel
theorem dX6_requireWanted_25 : decode cX6_requireWanted 25 = .ok (.return_, 1) := by decide +kernel
theorem dX6_requireRoom_0 : decode cX6_requireRoom 0 = .ok (.iload_n 1, 1) := by decide +kernel
theorem dX6_requireRoom_1 : decode cX6_requireRoom 1 = .ok (.sipush 256, 3) := by decide +kernel
theorem dX6_requireRoom_4 : decode cX6_requireRoom 4 = .ok (.aload_n 0, 1) := by decide +kernel
theorem dX6_requireRoom_5 : decode cX6_requireRoom 5 = .ok (.getfield 107, 3) := by decide +kernel
theorem dX6_requireRoom_8 : decode cX6_requireRoom 8 = .ok (.isub, 1) := by decide +kernel
theorem dX6_requireRoom_9 : decode cX6_requireRoom 9 = .ok (.if_icmp .le 14, 3) := by decide +kernel
theorem dX6_requireRoom_12 : decode cX6_requireRoom 12 = .ok (.new 168, 3) := by decide +kernel
theorem dX6_requireRoom_15 : decode cX6_requireRoom 15 = .ok (.dup, 1) := by decide +kernel
theorem dX6_requireRoom_16 : decode cX6_requireRoom 16 = .ok (.ldc_w 289, 3) := by decide +kernel
theorem dX6_requireRoom_19 : decode cX6_requireRoom 19 = .ok (.invokespecial 172, 3) := by decide +kernel
theorem dX6_requireRoom_22 : decode cX6_requireRoom 22 = .ok (.athrow, 1) := by decide +kernel
theorem dX6_requireRoom_23 : decode cX6_requireRoom 23 = .ok (.return_, 1) := by decide +kernel
set_option maxRecDepth 20000 in
theorem ggX6_addSigns_X6_requireRoom : GoodIn wsX6_addSigns wsX6_requireRoom := goodIn_ca (goodIn_r _ [5, 6, 7, 1, 18, 19] (by decide +kernel) (by decide +kernel)) (goodIn_sub (fun _ h => List.mem_cons_of_mem _ (List.mem_append_left _ (List.mem_append_right _ h))) (by decide +kernel))
set_option maxRecDepth 20000 in
theorem gX6_addSigns_X6_requireRoom : GoodIn wsX6_addSigns (va_wsS RX6 291 yX6_requireRoom wsX6_requireRoom) := goodIn_app (goodIn_of _ (by decide +kernel)) ggX6_addSigns_X6_requireRoom
set_option maxRecDepth 20000 in
theorem ggX6_addSigns_X6_cut : GoodIn wsX6_addSigns wsX6_cut := goodIn_r _ [10] (by decide +kernel) (by decide +kernel)
set_option maxRecDepth 20000 in
theorem gX6_addSigns_X6_cut : GoodIn wsX6_addSigns (va_wsS RX6 75 yX6_cut wsX6_cut) := goodIn_app (goodIn_of _ (by decide +kernel)) ggX6_addSigns_X6_cut
set_option maxRecDepth 20000 in
theorem ggX6_addSigns_X4_addSign : GoodIn wsX6_addSigns wsX4_addSign := goodIn_ca (goodIn_r _ [15, 16, 17, 18, 19] (by decide +kernel) (by decide +kernel)) (goodIn_sub (fun _ h => List.mem_cons_of_mem _ (List.mem_append_right _ h)) (by decide +kernel))
set_option maxRecDepth 20000 in
theorem gX6_addSigns_X4_addSign : GoodIn wsX6_addSigns (wsV RX6 295 RX4 yX4_addSign wsX4_addSign) := goodIn_app (goodIn_of _ (by decide +kernel)) ggX6_addSigns_X4_addSign
theorem dX6_addSigns_0 : decode cX6_addSigns 0 = .ok (.aload_n 0, 1) := by decide +kernel
theorem dX6_addSigns_1 : decode cX6_addSigns 1 = .ok (.iload_n 2, 1) := by decide +kernel
theorem dX6_addSigns_2 : decode cX6_addSigns 2 = .ok (.invokestatic 291, 3) := by decide +kernel
theorem dX6_addSigns_5 : decode cX6_addSigns 5 = .ok (.iconst 0, 1) := by decide +kernel
theorem dX6_addSigns_6 : decode cX6_addSigns 6 = .ok (.istore_n 3, 1) := by decide +kernel
theorem dX6_addSigns_7 : decode cX6_addSigns 7 = .ok (.iload_n 3, 1) := by decide +kernel
theorem dX6_addSigns_8 : decode cX6_addSigns 8 = .ok (.iload_n 2, 1) := by decide +kernel
theorem dX6_addSigns_9 : decode cX6_addSigns 9 = .ok (.if_icmp .ge 17, 3) := by decide +kernel
theorem dX6_addSigns_12 : decode cX6_addSigns 12 = .ok (.aload_n 0, 1) := by decide +kernel
theorem dX6_addSigns_13 : decode cX6_addSigns 13 = .ok (.iload_n 1, 1) := by decide +kernel
theorem dX6_addSigns_14 : decode cX6_addSigns 14 = .ok (.invokestatic 75, 3) := by decide +kernel
theorem dX6_addSigns_17 : decode cX6_addSigns 17 = .ok (.invokevirtual 295, 3) := by decide +kernel
theorem dX6_addSigns_20 : decode cX6_addSigns 20 = .ok (.iinc 3 1, 3) := by decide +kernel
theorem dX6_addSigns_23 : decode cX6_addSigns 23 = .ok (.goto (-16), 3) := by decide +kernel
theorem dX6_addSigns_26 : decode cX6_addSigns 26 = .ok (.aload_n 0, 1) := by decide +kernel
theorem dX6_addSigns_27 : decode cX6_addSigns 27 = .ok (.getfield 107, 3) := by decide +kernel
theorem dX6_addSigns_30 : decode cX6_addSigns 30 = .ok (.ireturn, 1) := by decide +kernel
set_option maxRecDepth 20000 in
theorem ggX6_addPart_X6_signRowAt : GoodIn wsX6_addPart wsX6_signRowAt := goodIn_ca (goodIn_r _ [7, 8, 9, 10, 29, 30, 31, 32, 33, 34, 35] (by decide +kernel) (by decide +kernel)) (goodIn_sub (fun _ h => List.mem_cons_of_mem _ (List.mem_append_left _ (List.mem_append_left _ (List.mem_append_right _ h)))) (by decide +kernel))
set_option maxRecDepth 20000 in
theorem gX6_addPart_X6_signRowAt : GoodIn wsX6_addPart (wsV RX6 56 RX6 yX6_signRowAt wsX6_signRowAt) := goodIn_app (goodIn_of _ (by decide +kernel)) ggX6_addPart_X6_signRowAt
set_option maxRecDepth 20000 in
theorem ggX6_addPart_X6_requirePlaces : GoodIn wsX6_addPart wsX6_requirePlaces := goodIn_ca (goodIn_r _ [13, 8, 9] (by decide +kernel) (by decide +kernel)) (goodIn_sub (fun _ h => List.mem_cons_of_mem _ (List.mem_append_left _ (List.mem_append_left _ (List.mem_append_right _ h)))) (by decide +kernel))
set_option maxRecDepth 20000 in
theorem gX6_addPart_X6_requirePlaces : GoodIn wsX6_addPart (va_wsS RX6 79 yX6_requirePlaces wsX6_requirePlaces) := goodIn_app (goodIn_of _ (by decide +kernel)) ggX6_addPart_X6_requirePlaces
set_option maxRecDepth 20000 in
theorem ggX6_addPart_X6_requireRoom : GoodIn wsX6_addPart wsX6_requireRoom := goodIn_ca (goodIn_r _ [16, 17, 18, 2, 27, 28] (by decide +kernel) (by decide +kernel)) (goodIn_sub (fun _ h => List.mem_cons_of_mem _ (List.mem_append_left _ (List.mem_append_right _ h))) (by decide +kernel))
set_option maxRecDepth 20000 in
theorem gX6_addPart_X6_requireRoom : GoodIn wsX6_addPart (va_wsS RX6 291 yX6_requireRoom wsX6_requireRoom) := goodIn_app (goodIn_of _ (by decide +kernel)) ggX6_addPart_X6_requireRoom
set_option maxRecDepth 20000 in
theorem ggX6_addPart_X4_addAll : GoodIn wsX6_addPart wsX4_addAll := goodIn_ca (goodIn_r _ [23, 24, 25, 27, 28] (by decide +kernel) (by decide +kernel)) (goodIn_sub (fun _ h => List.mem_cons_of_mem _ (List.mem_append_right _ h)) (by decide +kernel))
set_option maxRecDepth 20000 in
theorem gX6_addPart_X4_addAll : GoodIn wsX6_addPart (wsV RX6 299 RX4 yX4_addAll wsX4_addAll) := goodIn_app (goodIn_of _ (by decide +kernel)) ggX6_addPart_X4_addAll
theorem dX6_addPart_0 : decode cX6_addPart 0 = .ok (.aload_n 0, 1) := by decide +kernel
theorem dX6_addPart_1 : decode cX6_addPart 1 = .ok (.iload_n 2, 1) := by decide +kernel
theorem dX6_addPart_2 : decode cX6_addPart 2 = .ok (.invokevirtual 56, 3) := by decide +kernel
theorem dX6_addPart_5 : decode cX6_addPart 5 = .ok (.getfield 60, 3) := by decide +kernel
theorem dX6_addPart_8 : decode cX6_addPart 8 = .ok (.astore 5, 2) := by decide +kernel
theorem dX6_addPart_10 : decode cX6_addPart 10 = .ok (.iload_n 3, 1) := by decide +kernel
theorem dX6_addPart_11 : decode cX6_addPart 11 = .ok (.iload 4, 2) := by decide +kernel
theorem dX6_addPart_13 : decode cX6_addPart 13 = .ok (.aload 5, 2) := by decide +kernel
theorem dX6_addPart_15 : decode cX6_addPart 15 = .ok (.arraylength, 1) := by decide +kernel
theorem dX6_addPart_16 : decode cX6_addPart 16 = .ok (.invokestatic 79, 3) := by decide +kernel
theorem dX6_addPart_19 : decode cX6_addPart 19 = .ok (.aload_n 1, 1) := by decide +kernel
theorem dX6_addPart_20 : decode cX6_addPart 20 = .ok (.iload 4, 2) := by decide +kernel
theorem dX6_addPart_22 : decode cX6_addPart 22 = .ok (.invokestatic 291, 3) := by decide +kernel
theorem dX6_addPart_25 : decode cX6_addPart 25 = .ok (.aload_n 1, 1) := by decide +kernel
theorem dX6_addPart_26 : decode cX6_addPart 26 = .ok (.aload 5, 2) := by decide +kernel
theorem dX6_addPart_28 : decode cX6_addPart 28 = .ok (.iload_n 3, 1) := by decide +kernel
theorem dX6_addPart_29 : decode cX6_addPart 29 = .ok (.iload 4, 2) := by decide +kernel
theorem dX6_addPart_31 : decode cX6_addPart 31 = .ok (.invokevirtual 299, 3) := by decide +kernel
theorem dX6_addPart_34 : decode cX6_addPart 34 = .ok (.aload_n 1, 1) := by decide +kernel
theorem dX6_addPart_35 : decode cX6_addPart 35 = .ok (.getfield 107, 3) := by decide +kernel
theorem dX6_addPart_38 : decode cX6_addPart 38 = .ok (.ireturn, 1) := by decide +kernel
set_option maxRecDepth 20000 in
theorem ggX6_takeInto_X6_signRowAt : GoodIn wsX6_takeInto wsX6_signRowAt := goodIn_ca (goodIn_r _ [11, 12, 13, 6, 32, 33, 34, 35, 36, 37, 38] (by decide +kernel) (by decide +kernel)) (goodIn_sub (fun _ h => List.mem_cons_of_mem _ (List.mem_append_left _ (List.mem_append_right _ h))) (by decide +kernel))
set_option maxRecDepth 20000 in
theorem gX6_takeInto_X6_signRowAt : GoodIn wsX6_takeInto (wsV RX6 56 RX6 yX6_signRowAt wsX6_signRowAt) := goodIn_app (goodIn_of _ (by decide +kernel)) ggX6_takeInto_X6_signRowAt
set_option maxRecDepth 20000 in
theorem ggX6_takeInto_X3_init : GoodIn wsX6_takeInto wsX3_init := goodIn_r _ [16, 17, 18, 19, 20, 21, 29] (by decide +kernel) (by decide +kernel)
set_option maxRecDepth 20000 in
theorem gX6_takeInto_X3_init : GoodIn wsX6_takeInto (wsX3_init) := ggX6_takeInto_X3_init
set_option maxRecDepth 20000 in
theorem ggX6_takeInto_X4_copyTo : GoodIn wsX6_takeInto wsX4_copyTo := goodIn_ca (goodIn_r _ [26, 27, 28, 30, 31] (by decide +kernel) (by decide +kernel)) (goodIn_sub (fun _ h => List.mem_cons_of_mem _ (List.mem_append_right _ h)) (by decide +kernel))
set_option maxRecDepth 20000 in
theorem gX6_takeInto_X4_copyTo : GoodIn wsX6_takeInto (wsV RX6 303 RX4 yX4_copyTo wsX4_copyTo) := goodIn_app (goodIn_of _ (by decide +kernel)) ggX6_takeInto_X4_copyTo
theorem dX6_takeInto_0 : decode cX6_takeInto 0 = .ok (.aload_n 0, 1) := by decide +kernel
theorem dX6_takeInto_1 : decode cX6_takeInto 1 = .ok (.iload_n 2, 1) := by decide +kernel
theorem dX6_takeInto_2 : decode cX6_takeInto 2 = .ok (.invokevirtual 56, 3) := by decide +kernel
theorem dX6_takeInto_5 : decode cX6_takeInto 5 = .ok (.pop, 1) := by decide +kernel
theorem dX6_takeInto_6 : decode cX6_takeInto 6 = .ok (.new 9, 3) := by decide +kernel
theorem dX6_takeInto_9 : decode cX6_takeInto 9 = .ok (.dup, 1) := by decide +kernel
theorem dX6_takeInto_10 : decode cX6_takeInto 10 = .ok (.aload_n 1, 1) := by decide +kernel
theorem dX6_takeInto_11 : decode cX6_takeInto 11 = .ok (.getfield 107, 3) := by decide +kernel
theorem dX6_takeInto_14 : decode cX6_takeInto 14 = .ok (.invokespecial 15, 3) := by decide +kernel
theorem dX6_takeInto_17 : decode cX6_takeInto 17 = .ok (.astore_n 3, 1) := by decide +kernel
theorem dX6_takeInto_18 : decode cX6_takeInto 18 = .ok (.aload_n 1, 1) := by decide +kernel
theorem dX6_takeInto_19 : decode cX6_takeInto 19 = .ok (.aload_n 3, 1) := by decide +kernel
theorem dX6_takeInto_20 : decode cX6_takeInto 20 = .ok (.getfield 60, 3) := by decide +kernel
theorem dX6_takeInto_23 : decode cX6_takeInto 23 = .ok (.invokevirtual 303, 3) := by decide +kernel
theorem dX6_takeInto_26 : decode cX6_takeInto 26 = .ok (.aload_n 0, 1) := by decide +kernel
theorem dX6_takeInto_27 : decode cX6_takeInto 27 = .ok (.getfield 11, 3) := by decide +kernel
theorem dX6_takeInto_30 : decode cX6_takeInto 30 = .ok (.iload_n 2, 1) := by decide +kernel
theorem dX6_takeInto_31 : decode cX6_takeInto 31 = .ok (.aload_n 3, 1) := by decide +kernel
theorem dX6_takeInto_32 : decode cX6_takeInto 32 = .ok (.aastore, 1) := by decide +kernel
theorem dX6_takeInto_33 : decode cX6_takeInto 33 = .ok (.aload_n 3, 1) := by decide +kernel
theorem dX6_takeInto_34 : decode cX6_takeInto 34 = .ok (.getfield 60, 3) := by decide +kernel
theorem dX6_takeInto_37 : decode cX6_takeInto 37 = .ok (.arraylength, 1) := by decide +kernel
theorem dX6_takeInto_38 : decode cX6_takeInto 38 = .ok (.ireturn, 1) := by decide +kernel
set_option maxRecDepth 20000 in
theorem ggX6_pourInto_X6_requireRoom : GoodIn wsX6_pourInto wsX6_requireRoom := goodIn_ca (goodIn_r _ [6, 7, 8, 1, 16, 17] (by decide +kernel) (by decide +kernel)) (goodIn_sub (fun _ h => List.mem_cons_of_mem _ (List.mem_append_left _ (List.mem_append_right _ h))) (by decide +kernel))
set_option maxRecDepth 20000 in
theorem gX6_pourInto_X6_requireRoom : GoodIn wsX6_pourInto (va_wsS RX6 291 yX6_requireRoom wsX6_requireRoom) := goodIn_app (goodIn_of _ (by decide +kernel)) ggX6_pourInto_X6_requireRoom
set_option maxRecDepth 20000 in
theorem ggX6_pourInto_X4_addAll : GoodIn wsX6_pourInto wsX4_addAll := goodIn_ca (goodIn_r _ [13, 14, 15, 16, 17] (by decide +kernel) (by decide +kernel)) (goodIn_sub (fun _ h => List.mem_cons_of_mem _ (List.mem_append_right _ h)) (by decide +kernel))
set_option maxRecDepth 20000 in
theorem gX6_pourInto_X4_addAll : GoodIn wsX6_pourInto (wsV RX6 299 RX4 yX4_addAll wsX4_addAll) := goodIn_app (goodIn_of _ (by decide +kernel)) ggX6_pourInto_X4_addAll
theorem dX6_pourInto_0 : decode cX6_pourInto 0 = .ok (.aload_n 1, 1) := by decide +kernel
theorem dX6_pourInto_1 : decode cX6_pourInto 1 = .ok (.aload_n 0, 1) := by decide +kernel
theorem dX6_pourInto_2 : decode cX6_pourInto 2 = .ok (.getfield 107, 3) := by decide +kernel
theorem dX6_pourInto_5 : decode cX6_pourInto 5 = .ok (.invokestatic 291, 3) := by decide +kernel
theorem dX6_pourInto_8 : decode cX6_pourInto 8 = .ok (.aload_n 1, 1) := by decide +kernel
theorem dX6_pourInto_9 : decode cX6_pourInto 9 = .ok (.aload_n 0, 1) := by decide +kernel
theorem dX6_pourInto_10 : decode cX6_pourInto 10 = .ok (.getfield 246, 3) := by decide +kernel
theorem dX6_pourInto_13 : decode cX6_pourInto 13 = .ok (.iconst 0, 1) := by decide +kernel
theorem dX6_pourInto_14 : decode cX6_pourInto 14 = .ok (.aload_n 0, 1) := by decide +kernel
theorem dX6_pourInto_15 : decode cX6_pourInto 15 = .ok (.getfield 107, 3) := by decide +kernel
theorem dX6_pourInto_18 : decode cX6_pourInto 18 = .ok (.invokevirtual 299, 3) := by decide +kernel
theorem dX6_pourInto_21 : decode cX6_pourInto 21 = .ok (.aload_n 1, 1) := by decide +kernel
theorem dX6_pourInto_22 : decode cX6_pourInto 22 = .ok (.getfield 107, 3) := by decide +kernel
theorem dX6_pourInto_25 : decode cX6_pourInto 25 = .ok (.ireturn, 1) := by decide +kernel
theorem dX6_cut_0 : decode cX6_cut 0 = .ok (.iload_n 0, 1) := by decide +kernel
theorem dX6_cut_1 : decode cX6_cut 1 = .ok (.sipush 255, 3) := by decide +kernel
theorem dX6_cut_4 : decode cX6_cut 4 = .ok (.iand, 1) := by decide +kernel
theorem dX6_cut_5 : decode cX6_cut 5 = .ok (.i2c, 1) := by decide +kernel
theorem dX6_cut_6 : decode cX6_cut 6 = .ok (.ireturn, 1) := by decide +kernel
theorem dX6_addCodes_0 : decode cX6_addCodes 0 = .ok (.ldc2_w 247, 3) := by decide +kernel
theorem dX6_addCodes_3 : decode cX6_addCodes 3 = .ok (.lload_n 0, 1) := by decide +kernel
theorem dX6_addCodes_4 : decode cX6_addCodes 4 = .ok (.lmul, 1) := by decide +kernel
theorem dX6_addCodes_5 : decode cX6_addCodes 5 = .ok (.iload_n 3, 1) := by decide +kernel
theorem dX6_addCodes_6 : decode cX6_addCodes 6 = .ok (.i2l, 1) := by decide +kernel
theorem dX6_addCodes_7 : decode cX6_addCodes 7 = .ok (.ladd, 1) := by decide +kernel
theorem dX6_addCodes_8 : decode cX6_addCodes 8 = .ok (.lstore 4, 2) := by decide +kernel
theorem dX6_addCodes_10 : decode cX6_addCodes 10 = .ok (.iconst 0, 1) := by decide +kernel
theorem dX6_addCodes_11 : decode cX6_addCodes 11 = .ok (.istore 6, 2) := by decide +kernel
theorem dX6_addCodes_13 : decode cX6_addCodes 13 = .ok (.iload 6, 2) := by decide +kernel
theorem dX6_addCodes_15 : decode cX6_addCodes 15 = .ok (.iload_n 3, 1) := by decide +kernel
theorem dX6_addCodes_16 : decode cX6_addCodes 16 = .ok (.if_icmp .ge 23, 3) := by decide +kernel
theorem dX6_addCodes_19 : decode cX6_addCodes 19 = .ok (.ldc2_w 247, 3) := by decide +kernel
theorem dX6_addCodes_22 : decode cX6_addCodes 22 = .ok (.lload 4, 2) := by decide +kernel
theorem dX6_addCodes_24 : decode cX6_addCodes 24 = .ok (.lmul, 1) := by decide +kernel
theorem dX6_addCodes_25 : decode cX6_addCodes 25 = .ok (.aload_n 2, 1) := by decide +kernel
theorem dX6_addCodes_26 : decode cX6_addCodes 26 = .ok (.iload 6, 2) := by decide +kernel
theorem dX6_addCodes_28 : decode cX6_addCodes 28 = .ok (.caload, 1) := by decide +kernel
theorem dX6_addCodes_29 : decode cX6_addCodes 29 = .ok (.i2l, 1) := by decide +kernel
theorem dX6_addCodes_30 : decode cX6_addCodes 30 = .ok (.ladd, 1) := by decide +kernel
theorem dX6_addCodes_31 : decode cX6_addCodes 31 = .ok (.lstore 4, 2) := by decide +kernel
theorem dX6_addCodes_33 : decode cX6_addCodes 33 = .ok (.iinc 6 1, 3) := by decide +kernel
theorem dX6_addCodes_36 : decode cX6_addCodes 36 = .ok (.goto (-23), 3) := by decide +kernel
theorem dX6_addCodes_39 : decode cX6_addCodes 39 = .ok (.lload 4, 2) := by decide +kernel
theorem dX6_addCodes_41 : decode cX6_addCodes 41 = .ok (.lreturn, 1) := by decide +kernel
theorem dX6_addBytes_0 : decode cX6_addBytes 0 = .ok (.ldc2_w 247, 3) := by decide +kernel
theorem dX6_addBytes_3 : decode cX6_addBytes 3 = .ok (.lload_n 0, 1) := by decide +kernel
theorem dX6_addBytes_4 : decode cX6_addBytes 4 = .ok (.lmul, 1) := by decide +kernel
theorem dX6_addBytes_5 : decode cX6_addBytes 5 = .ok (.aload_n 2, 1) := by decide +kernel
theorem dX6_addBytes_6 : decode cX6_addBytes 6 = .ok (.arraylength, 1) := by decide +kernel
theorem dX6_addBytes_7 : decode cX6_addBytes 7 = .ok (.i2l, 1) := by decide +kernel
theorem dX6_addBytes_8 : decode cX6_addBytes 8 = .ok (.ladd, 1) := by decide +kernel
theorem dX6_addBytes_9 : decode cX6_addBytes 9 = .ok (.lstore_n 3, 1) := by decide +kernel
theorem dX6_addBytes_10 : decode cX6_addBytes 10 = .ok (.iconst 0, 1) := by decide +kernel
theorem dX6_addBytes_11 : decode cX6_addBytes 11 = .ok (.istore 5, 2) := by decide +kernel
theorem dX6_addBytes_13 : decode cX6_addBytes 13 = .ok (.iload 5, 2) := by decide +kernel
theorem dX6_addBytes_15 : decode cX6_addBytes 15 = .ok (.aload_n 2, 1) := by decide +kernel
theorem dX6_addBytes_16 : decode cX6_addBytes 16 = .ok (.arraylength, 1) := by decide +kernel
theorem dX6_addBytes_17 : decode cX6_addBytes 17 = .ok (.if_icmp .ge 21, 3) := by decide +kernel
theorem dX6_addBytes_20 : decode cX6_addBytes 20 = .ok (.ldc2_w 247, 3) := by decide +kernel
theorem dX6_addBytes_23 : decode cX6_addBytes 23 = .ok (.lload_n 3, 1) := by decide +kernel
theorem dX6_addBytes_24 : decode cX6_addBytes 24 = .ok (.lmul, 1) := by decide +kernel
theorem dX6_addBytes_25 : decode cX6_addBytes 25 = .ok (.aload_n 2, 1) := by decide +kernel
theorem dX6_addBytes_26 : decode cX6_addBytes 26 = .ok (.iload 5, 2) := by decide +kernel
theorem dX6_addBytes_28 : decode cX6_addBytes 28 = .ok (.baload, 1) := by decide +kernel
theorem dX6_addBytes_29 : decode cX6_addBytes 29 = .ok (.i2l, 1) := by decide +kernel
theorem dX6_addBytes_30 : decode cX6_addBytes 30 = .ok (.ladd, 1) := by decide +kernel
theorem dX6_addBytes_31 : decode cX6_addBytes 31 = .ok (.lstore_n 3, 1) := by decide +kernel
theorem dX6_addBytes_32 : decode cX6_addBytes 32 = .ok (.iinc 5 1, 3) := by decide +kernel
theorem dX6_addBytes_35 : decode cX6_addBytes 35 = .ok (.goto (-22), 3) := by decide +kernel
theorem dX6_addBytes_38 : decode cX6_addBytes 38 = .ok (.lload_n 3, 1) := by decide +kernel
theorem dX6_addBytes_39 : decode cX6_addBytes 39 = .ok (.lreturn, 1) := by decide +kernel
theorem dX7_init_0 : decode cX7_init 0 = .ok (.aload_n 0, 1) := by decide +kernel
theorem dX7_init_1 : decode cX7_init 1 = .ok (.invokespecial 1, 3) := by decide +kernel
theorem dX7_init_4 : decode cX7_init 4 = .ok (.aload_n 0, 1) := by decide +kernel
theorem dX7_init_5 : decode cX7_init 5 = .ok (.sipush 2048, 3) := by decide +kernel
theorem dX7_init_8 : decode cX7_init 8 = .ok (.newarray .int, 2) := by decide +kernel
theorem dX7_init_10 : decode cX7_init 10 = .ok (.putfield 7, 3) := by decide +kernel
theorem dX7_init_13 : decode cX7_init 13 = .ok (.aload_n 0, 1) := by decide +kernel
theorem dX7_init_14 : decode cX7_init 14 = .ok (.bipush 8, 2) := by decide +kernel
theorem dX7_init_16 : decode cX7_init 16 = .ok (.newarray .int, 2) := by decide +kernel
theorem dX7_init_18 : decode cX7_init 18 = .ok (.putfield 13, 3) := by decide +kernel
theorem dX7_init_21 : decode cX7_init 21 = .ok (.aload_n 0, 1) := by decide +kernel
theorem dX7_init_22 : decode cX7_init 22 = .ok (.iconst 4, 1) := by decide +kernel
theorem dX7_init_23 : decode cX7_init 23 = .ok (.newarray .int, 2) := by decide +kernel
theorem dX7_init_25 : decode cX7_init 25 = .ok (.putfield 16, 3) := by decide +kernel
theorem dX7_init_28 : decode cX7_init 28 = .ok (.aload_n 0, 1) := by decide +kernel
theorem dX7_init_29 : decode cX7_init 29 = .ok (.sipush 704, 3) := by decide +kernel
theorem dX7_init_32 : decode cX7_init 32 = .ok (.newarray .int, 2) := by decide +kernel
theorem dX7_init_34 : decode cX7_init 34 = .ok (.putfield 19, 3) := by decide +kernel
theorem dX7_init_37 : decode cX7_init 37 = .ok (.aload_n 0, 1) := by decide +kernel
theorem dX7_init_38 : decode cX7_init 38 = .ok (.bipush 11, 2) := by decide +kernel
theorem dX7_init_40 : decode cX7_init 40 = .ok (.newarray .int, 2) := by decide +kernel
theorem dX7_init_42 : decode cX7_init 42 = .ok (.putfield 22, 3) := by decide +kernel
theorem dX7_init_45 : decode cX7_init 45 = .ok (.aload_n 0, 1) := by decide +kernel
theorem dX7_init_46 : decode cX7_init 46 = .ok (.iconst 4, 1) := by decide +kernel
theorem dX7_init_47 : decode cX7_init 47 = .ok (.newarray .int, 2) := by decide +kernel
theorem dX7_init_49 : decode cX7_init 49 = .ok (.putfield 25, 3) := by decide +kernel
theorem dX7_init_52 : decode cX7_init 52 = .ok (.aload_n 0, 1) := by decide +kernel
theorem dX7_init_53 : decode cX7_init 53 = .ok (.sipush 1536, 3) := by decide +kernel
theorem dX7_init_56 : decode cX7_init 56 = .ok (.newarray .int, 2) := by decide +kernel
theorem dX7_init_58 : decode cX7_init 58 = .ok (.putfield 28, 3) := by decide +kernel
theorem dX7_init_61 : decode cX7_init 61 = .ok (.aload_n 0, 1) := by decide +kernel
theorem dX7_init_62 : decode cX7_init 62 = .ok (.bipush 6, 2) := by decide +kernel
theorem dX7_init_64 : decode cX7_init 64 = .ok (.newarray .int, 2) := by decide +kernel
theorem dX7_init_66 : decode cX7_init 66 = .ok (.putfield 31, 3) := by decide +kernel
theorem dX7_init_69 : decode cX7_init 69 = .ok (.aload_n 0, 1) := by decide +kernel
theorem dX7_init_70 : decode cX7_init 70 = .ok (.iconst 3, 1) := by decide +kernel
theorem dX7_init_71 : decode cX7_init 71 = .ok (.newarray .int, 2) := by decide +kernel
theorem dX7_init_73 : decode cX7_init 73 = .ok (.putfield 34, 3) := by decide +kernel
theorem dX7_init_76 : decode cX7_init 76 = .ok (.aload_n 0, 1) := by decide +kernel
theorem dX7_init_77 : decode cX7_init 77 = .ok (.iconst 3, 1) := by decide +kernel
theorem dX7_init_78 : decode cX7_init 78 = .ok (.newarray .int, 2) := by decide +kernel
theorem dX7_init_80 : decode cX7_init 80 = .ok (.putfield 37, 3) := by decide +kernel
theorem dX7_init_83 : decode cX7_init 83 = .ok (.aload_n 0, 1) := by decide +kernel
theorem dX7_init_84 : decode cX7_init 84 = .ok (.iconst 3, 1) := by decide +kernel
theorem dX7_init_85 : decode cX7_init 85 = .ok (.newarray .int, 2) := by decide +kernel
theorem dX7_init_87 : decode cX7_init 87 = .ok (.putfield 40, 3) := by decide +kernel
theorem dX7_init_90 : decode cX7_init 90 = .ok (.aload_n 0, 1) := by decide +kernel
theorem dX7_init_91 : decode cX7_init 91 = .ok (.iconst 3, 1) := by decide +kernel
theorem dX7_init_92 : decode cX7_init 92 = .ok (.newarray .int, 2) := by decide +kernel
theorem dX7_init_94 : decode cX7_init 94 = .ok (.putfield 43, 3) := by decide +kernel
theorem dX7_init_97 : decode cX7_init 97 = .ok (.aload_n 0, 1) := by decide +kernel
theorem dX7_init_98 : decode cX7_init 98 = .ok (.iconst 3, 1) := by decide +kernel
theorem dX7_init_99 : decode cX7_init 99 = .ok (.newarray .boolean, 2) := by decide +kernel
theorem dX7_init_101 : decode cX7_init 101 = .ok (.putfield 46, 3) := by decide +kernel
theorem dX7_init_104 : decode cX7_init 104 = .ok (.aload_n 0, 1) := by decide +kernel
theorem dX7_init_105 : decode cX7_init 105 = .ok (.iconst 2, 1) := by decide +kernel
theorem dX7_init_106 : decode cX7_init 106 = .ok (.newarray .int, 2) := by decide +kernel
theorem dX7_init_108 : decode cX7_init 108 = .ok (.putfield 50, 3) := by decide +kernel
theorem dX7_init_111 : decode cX7_init 111 = .ok (.aload_n 0, 1) := by decide +kernel
theorem dX7_init_112 : decode cX7_init 112 = .ok (.bipush 6, 2) := by decide +kernel
theorem dX7_init_114 : decode cX7_init 114 = .ok (.newarray .int, 2) := by decide +kernel
theorem dX7_init_116 : decode cX7_init 116 = .ok (.putfield 53, 3) := by decide +kernel
theorem dX7_init_119 : decode cX7_init 119 = .ok (.aload_n 0, 1) := by decide +kernel
theorem dX7_init_120 : decode cX7_init 120 = .ok (.bipush 6, 2) := by decide +kernel
theorem dX7_init_122 : decode cX7_init 122 = .ok (.newarray .int, 2) := by decide +kernel
theorem dX7_init_124 : decode cX7_init 124 = .ok (.putfield 56, 3) := by decide +kernel
theorem dX7_init_127 : decode cX7_init 127 = .ok (.aload_n 0, 1) := by decide +kernel
theorem dX7_init_128 : decode cX7_init 128 = .ok (.iconst 2, 1) := by decide +kernel
theorem dX7_init_129 : decode cX7_init 129 = .ok (.newarray .int, 2) := by decide +kernel
theorem dX7_init_131 : decode cX7_init 131 = .ok (.putfield 59, 3) := by decide +kernel
theorem dX7_init_134 : decode cX7_init 134 = .ok (.aload_n 0, 1) := by decide +kernel
theorem dX7_init_135 : decode cX7_init 135 = .ok (.iconst 2, 1) := by decide +kernel
theorem dX7_init_136 : decode cX7_init 136 = .ok (.newarray .int, 2) := by decide +kernel
theorem dX7_init_138 : decode cX7_init 138 = .ok (.putfield 62, 3) := by decide +kernel
theorem dX7_init_141 : decode cX7_init 141 = .ok (.aload_n 0, 1) := by decide +kernel
theorem dX7_init_142 : decode cX7_init 142 = .ok (.iconst 2, 1) := by decide +kernel
theorem dX7_init_143 : decode cX7_init 143 = .ok (.newarray .int, 2) := by decide +kernel
theorem dX7_init_145 : decode cX7_init 145 = .ok (.putfield 65, 3) := by decide +kernel
theorem dX7_init_148 : decode cX7_init 148 = .ok (.aload_n 0, 1) := by decide +kernel
theorem dX7_init_149 : decode cX7_init 149 = .ok (.sipush 256, 3) := by decide +kernel
theorem dX7_init_152 : decode cX7_init 152 = .ok (.newarray .int, 2) := by decide +kernel
theorem dX7_init_154 : decode cX7_init 154 = .ok (.putfield 68, 3) := by decide +kernel
theorem dX7_init_157 : decode cX7_init 157 = .ok (.iconst 0, 1) := by decide +kernel
theorem dX7_init_158 : decode cX7_init 158 = .ok (.istore_n 1, 1) := by decide +kernel
theorem dX7_init_159 : decode cX7_init 159 = .ok (.iload_n 1, 1) := by decide +kernel
theorem dX7_init_160 : decode cX7_init 160 = .ok (.iconst 4, 1) := by decide +kernel
theorem dX7_init_161 : decode cX7_init 161 = .ok (.if_icmp .ge 23, 3) := by decide +kernel
theorem dX7_init_164 : decode cX7_init 164 = .ok (.aload_n 0, 1) := by decide +kernel
theorem dX7_init_165 : decode cX7_init 165 = .ok (.getfield 16, 3) := by decide +kernel
theorem dX7_init_168 : decode cX7_init 168 = .ok (.iload_n 1, 1) := by decide +kernel
theorem dX7_init_169 : decode cX7_init 169 = .ok (.iload_n 1, 1) := by decide +kernel
theorem dX7_init_170 : decode cX7_init 170 = .ok (.iastore, 1) := by decide +kernel
theorem dX7_init_171 : decode cX7_init 171 = .ok (.aload_n 0, 1) := by decide +kernel
theorem dX7_init_172 : decode cX7_init 172 = .ok (.getfield 25, 3) := by decide +kernel
theorem dX7_init_175 : decode cX7_init 175 = .ok (.iload_n 1, 1) := by decide +kernel
theorem dX7_init_176 : decode cX7_init 176 = .ok (.iload_n 1, 1) := by decide +kernel
theorem dX7_init_177 : decode cX7_init 177 = .ok (.iastore, 1) := by decide +kernel
theorem dX7_init_178 : decode cX7_init 178 = .ok (.iinc 1 1, 3) := by decide +kernel
theorem dX7_init_181 : decode cX7_init 181 = .ok (.goto (-22), 3) := by decide +kernel
theorem dX7_init_184 : decode cX7_init 184 = .ok (.iconst 0, 1) := by decide +kernel
theorem dX7_init_185 : decode cX7_init 185 = .ok (.istore_n 1, 1) := by decide +kernel
theorem dX7_init_186 : decode cX7_init 186 = .ok (.iload_n 1, 1) := by decide +kernel
theorem dX7_init_187 : decode cX7_init 187 = .ok (.iconst 3, 1) := by decide +kernel
theorem dX7_init_188 : decode cX7_init 188 = .ok (.if_icmp .ge 16, 3) := by decide +kernel
theorem dX7_init_191 : decode cX7_init 191 = .ok (.aload_n 0, 1) := by decide +kernel
theorem dX7_init_192 : decode cX7_init 192 = .ok (.getfield 34, 3) := by decide +kernel
theorem dX7_init_195 : decode cX7_init 195 = .ok (.iload_n 1, 1) := by decide +kernel
theorem dX7_init_196 : decode cX7_init 196 = .ok (.iconst (-1), 1) := by decide +kernel
theorem dX7_init_197 : decode cX7_init 197 = .ok (.iastore, 1) := by decide +kernel
theorem dX7_init_198 : decode cX7_init 198 = .ok (.iinc 1 1, 3) := by decide +kernel
theorem dX7_init_201 : decode cX7_init 201 = .ok (.goto (-15), 3) := by decide +kernel
theorem dX7_init_204 : decode cX7_init 204 = .ok (.iconst 0, 1) := by decide +kernel
theorem dX7_init_205 : decode cX7_init 205 = .ok (.istore_n 1, 1) := by decide +kernel
theorem dX7_init_206 : decode cX7_init 206 = .ok (.iload_n 1, 1) := by decide +kernel
theorem dX7_init_207 : decode cX7_init 207 = .ok (.bipush 6, 2) := by decide +kernel
theorem dX7_init_209 : decode cX7_init 209 = .ok (.if_icmp .ge 16, 3) := by decide +kernel
theorem dX7_init_212 : decode cX7_init 212 = .ok (.aload_n 0, 1) := by decide +kernel
theorem dX7_init_213 : decode cX7_init 213 = .ok (.getfield 53, 3) := by decide +kernel
theorem dX7_init_216 : decode cX7_init 216 = .ok (.iload_n 1, 1) := by decide +kernel
theorem dX7_init_217 : decode cX7_init 217 = .ok (.iconst (-1), 1) := by decide +kernel
theorem dX7_init_218 : decode cX7_init 218 = .ok (.iastore, 1) := by decide +kernel
theorem dX7_init_219 : decode cX7_init 219 = .ok (.iinc 1 1, 3) := by decide +kernel
theorem dX7_init_222 : decode cX7_init 222 = .ok (.goto (-16), 3) := by decide +kernel
theorem dX7_init_225 : decode cX7_init 225 = .ok (.return_, 1) := by decide +kernel
theorem dX7_thrown_0 : decode cX7_thrown 0 = .ok (.aload_n 0, 1) := by decide +kernel
theorem dX7_thrown_1 : decode cX7_thrown 1 = .ok (.getfield 71, 3) := by decide +kernel
theorem dX7_thrown_4 : decode cX7_thrown 4 = .ok (.ireturn, 1) := by decide +kernel
theorem dX7_isWrong_0 : decode cX7_isWrong 0 = .ok (.aload_n 0, 1) := by decide +kernel
theorem dX7_isWrong_1 : decode cX7_isWrong 1 = .ok (.iload_n 1, 1) := by decide +kernel
theorem dX7_isWrong_2 : decode cX7_isWrong 2 = .ok (.putfield 71, 3) := by decide +kernel
theorem dX7_isWrong_5 : decode cX7_isWrong 5 = .ok (.iload_n 1, 1) := by decide +kernel
theorem dX7_isWrong_6 : decode cX7_isWrong 6 = .ok (.ifCond .eq 7, 3) := by decide +kernel
theorem dX7_isWrong_9 : decode cX7_isWrong 9 = .ok (.iconst 1, 1) := by decide +kernel
theorem dX7_isWrong_10 : decode cX7_isWrong 10 = .ok (.goto 4, 3) := by decide +kernel
theorem dX7_isWrong_13 : decode cX7_isWrong 13 = .ok (.iconst 0, 1) := by decide +kernel
theorem dX7_isWrong_14 : decode cX7_isWrong 14 = .ok (.ireturn, 1) := by decide +kernel
theorem dX7_lesser_0 : decode cX7_lesser 0 = .ok (.iload_n 1, 1) := by decide +kernel
theorem dX7_lesser_1 : decode cX7_lesser 1 = .ok (.iload_n 2, 1) := by decide +kernel
theorem dX7_lesser_2 : decode cX7_lesser 2 = .ok (.if_icmp .ge 7, 3) := by decide +kernel
theorem dX7_lesser_5 : decode cX7_lesser 5 = .ok (.iload_n 1, 1) := by decide +kernel
theorem dX7_lesser_6 : decode cX7_lesser 6 = .ok (.goto 4, 3) := by decide +kernel
theorem dX7_lesser_9 : decode cX7_lesser 9 = .ok (.iload_n 2, 1) := by decide +kernel
theorem dX7_lesser_10 : decode cX7_lesser 10 = .ok (.ireturn, 1) := by decide +kernel
theorem dX7_isRow_0 : decode cX7_isRow 0 = .ok (.iconst 0, 1) := by decide +kernel
theorem dX7_isRow_1 : decode cX7_isRow 1 = .ok (.iload_n 1, 1) := by decide +kernel
theorem dX7_isRow_2 : decode cX7_isRow 2 = .ok (.if_icmp .gt 12, 3) := by decide +kernel
theorem dX7_isRow_5 : decode cX7_isRow 5 = .ok (.iload_n 1, 1) := by decide +kernel
theorem dX7_isRow_6 : decode cX7_isRow 6 = .ok (.iconst 3, 1) := by decide +kernel
theorem dX7_isRow_7 : decode cX7_isRow 7 = .ok (.if_icmp .gt 7, 3) := by decide +kernel
theorem dX7_isRow_10 : decode cX7_isRow 10 = .ok (.iconst 1, 1) := by decide +kernel
theorem dX7_isRow_11 : decode cX7_isRow 11 = .ok (.goto 4, 3) := by decide +kernel
theorem dX7_isRow_14 : decode cX7_isRow 14 = .ok (.iconst 0, 1) := by decide +kernel
theorem dX7_isRow_15 : decode cX7_isRow 15 = .ok (.ireturn, 1) := by decide +kernel
theorem dX7_isOther_0 : decode cX7_isOther 0 = .ok (.iconst 0, 1) := by decide +kernel
theorem dX7_isOther_1 : decode cX7_isOther 1 = .ok (.iload_n 1, 1) := by decide +kernel
theorem dX7_isOther_2 : decode cX7_isOther 2 = .ok (.if_icmp .gt 12, 3) := by decide +kernel
theorem dX7_isOther_5 : decode cX7_isOther 5 = .ok (.iload_n 1, 1) := by decide +kernel
theorem dX7_isOther_6 : decode cX7_isOther 6 = .ok (.iconst 2, 1) := by decide +kernel
theorem dX7_isOther_7 : decode cX7_isOther 7 = .ok (.if_icmp .gt 7, 3) := by decide +kernel
theorem dX7_isOther_10 : decode cX7_isOther 10 = .ok (.iconst 1, 1) := by decide +kernel
theorem dX7_isOther_11 : decode cX7_isOther 11 = .ok (.goto 4, 3) := by decide +kernel
theorem dX7_isOther_14 : decode cX7_isOther 14 = .ok (.iconst 0, 1) := by decide +kernel
theorem dX7_isOther_15 : decode cX7_isOther 15 = .ok (.ireturn, 1) := by decide +kernel
theorem dX7_isStream_0 : decode cX7_isStream 0 = .ok (.iconst 0, 1) := by decide +kernel
theorem dX7_isStream_1 : decode cX7_isStream 1 = .ok (.iload_n 1, 1) := by decide +kernel
theorem dX7_isStream_2 : decode cX7_isStream 2 = .ok (.if_icmp .gt 12, 3) := by decide +kernel
theorem dX7_isStream_5 : decode cX7_isStream 5 = .ok (.iload_n 1, 1) := by decide +kernel
theorem dX7_isStream_6 : decode cX7_isStream 6 = .ok (.iconst 1, 1) := by decide +kernel
theorem dX7_isStream_7 : decode cX7_isStream 7 = .ok (.if_icmp .gt 7, 3) := by decide +kernel
theorem dX7_isStream_10 : decode cX7_isStream 10 = .ok (.iconst 1, 1) := by decide +kernel
theorem dX7_isStream_11 : decode cX7_isStream 11 = .ok (.goto 4, 3) := by decide +kernel
theorem dX7_isStream_14 : decode cX7_isStream 14 = .ok (.iconst 0, 1) := by decide +kernel
theorem dX7_isStream_15 : decode cX7_isStream 15 = .ok (.ireturn, 1) := by decide +kernel
theorem dX7_signLength_0 : decode cX7_signLength 0 = .ok (.aload_n 0, 1) := by decide +kernel
theorem dX7_signLength_1 : decode cX7_signLength 1 = .ok (.getfield 13, 3) := by decide +kernel
theorem dX7_signLength_4 : decode cX7_signLength 4 = .ok (.aload_n 0, 1) := by decide +kernel
theorem dX7_signLength_5 : decode cX7_signLength 5 = .ok (.getfield 16, 3) := by decide +kernel
theorem dX7_signLength_8 : decode cX7_signLength 8 = .ok (.iload_n 1, 1) := by decide +kernel
theorem dX7_signLength_9 : decode cX7_signLength 9 = .ok (.iaload, 1) := by decide +kernel
theorem dX7_signLength_10 : decode cX7_signLength 10 = .ok (.iaload, 1) := by decide +kernel
theorem dX7_signLength_11 : decode cX7_signLength 11 = .ok (.ireturn, 1) := by decide +kernel
set_option maxRecDepth 20000 in
theorem ggX7_isPart_X7_isRow : GoodIn wsX7_isPart wsX7_isRow := goodIn_r _ [5] (by decide +kernel) (by decide +kernel)
set_option maxRecDepth 20000 in
theorem gX7_isPart_X7_isRow : GoodIn wsX7_isPart (wsV RX7 75 RX7 yX7_isRow wsX7_isRow) := goodIn_app (goodIn_of _ (by decide +kernel)) ggX7_isPart_X7_isRow
set_option maxRecDepth 20000 in
theorem ggX7_isPart_X7_signLength : GoodIn wsX7_isPart wsX7_signLength := goodIn_ca (goodIn_r _ [9, 10, 11, 12, 13, 14, 15, 16, 17, 18, 19, 20, 21, 22, 23, 24, 25, 26, 27, 28, 29, 30, 31, 32] (by decide +kernel) (by decide +kernel)) (goodIn_sub (fun _ h => List.mem_cons_of_mem _ (List.mem_append_right _ h)) (by decide +kernel))
set_option maxRecDepth 20000 in
theorem gX7_isPart_X7_signLength : GoodIn wsX7_isPart (wsV RX7 79 RX7 yX7_signLength wsX7_signLength) := goodIn_app (goodIn_of _ (by decide +kernel)) ggX7_isPart_X7_signLength
theorem dX7_isPart_0 : decode cX7_isPart 0 = .ok (.aload_n 0, 1) := by decide +kernel
theorem dX7_isPart_1 : decode cX7_isPart 1 = .ok (.iload_n 1, 1) := by decide +kernel
theorem dX7_isPart_2 : decode cX7_isPart 2 = .ok (.invokevirtual 75, 3) := by decide +kernel
theorem dX7_isPart_5 : decode cX7_isPart 5 = .ok (.ifCond .eq 26, 3) := by decide +kernel
theorem dX7_isPart_8 : decode cX7_isPart 8 = .ok (.iload_n 2, 1) := by decide +kernel
theorem dX7_isPart_9 : decode cX7_isPart 9 = .ok (.ifCond .lt 22, 3) := by decide +kernel
theorem dX7_isPart_12 : decode cX7_isPart 12 = .ok (.iload_n 3, 1) := by decide +kernel
theorem dX7_isPart_13 : decode cX7_isPart 13 = .ok (.ifCond .lt 18, 3) := by decide +kernel
theorem dX7_isPart_16 : decode cX7_isPart 16 = .ok (.iload_n 2, 1) := by decide +kernel
theorem dX7_isPart_17 : decode cX7_isPart 17 = .ok (.aload_n 0, 1) := by decide +kernel
theorem dX7_isPart_18 : decode cX7_isPart 18 = .ok (.iload_n 1, 1) := by decide +kernel
theorem dX7_isPart_19 : decode cX7_isPart 19 = .ok (.invokevirtual 79, 3) := by decide +kernel
theorem dX7_isPart_22 : decode cX7_isPart 22 = .ok (.iload_n 3, 1) := by decide +kernel
theorem dX7_isPart_23 : decode cX7_isPart 23 = .ok (.isub, 1) := by decide +kernel
theorem dX7_isPart_24 : decode cX7_isPart 24 = .ok (.if_icmp .gt 7, 3) := by decide +kernel
theorem dX7_isPart_27 : decode cX7_isPart 27 = .ok (.iconst 1, 1) := by decide +kernel
theorem dX7_isPart_28 : decode cX7_isPart 28 = .ok (.goto 4, 3) := by decide +kernel
theorem dX7_isPart_31 : decode cX7_isPart 31 = .ok (.iconst 0, 1) := by decide +kernel
theorem dX7_isPart_32 : decode cX7_isPart 32 = .ok (.ireturn, 1) := by decide +kernel
set_option maxRecDepth 20000 in
theorem ggX7_isBytePart_X7_isRow : GoodIn wsX7_isBytePart wsX7_isRow := goodIn_r _ [7] (by decide +kernel) (by decide +kernel)
set_option maxRecDepth 20000 in
theorem gX7_isBytePart_X7_isRow : GoodIn wsX7_isBytePart (wsV RX7 75 RX7 yX7_isRow wsX7_isRow) := goodIn_app (goodIn_of _ (by decide +kernel)) ggX7_isBytePart_X7_isRow
theorem dX7_isBytePart_0 : decode cX7_isBytePart 0 = .ok (.aload_n 0, 1) := by decide +kernel
theorem dX7_isBytePart_1 : decode cX7_isBytePart 1 = .ok (.iload_n 1, 1) := by decide +kernel
theorem dX7_isBytePart_2 : decode cX7_isBytePart 2 = .ok (.invokevirtual 75, 3) := by decide +kernel
theorem dX7_isBytePart_5 : decode cX7_isBytePart 5 = .ok (.ifCond .eq 32, 3) := by decide +kernel
theorem dX7_isBytePart_8 : decode cX7_isBytePart 8 = .ok (.iload_n 2, 1) := by decide +kernel
theorem dX7_isBytePart_9 : decode cX7_isBytePart 9 = .ok (.ifCond .lt 28, 3) := by decide +kernel
theorem dX7_isBytePart_12 : decode cX7_isBytePart 12 = .ok (.iload_n 3, 1) := by decide +kernel
theorem dX7_isBytePart_13 : decode cX7_isBytePart 13 = .ok (.ifCond .lt 24, 3) := by decide +kernel
theorem dX7_isBytePart_16 : decode cX7_isBytePart 16 = .ok (.iload_n 2, 1) := by decide +kernel
theorem dX7_isBytePart_17 : decode cX7_isBytePart 17 = .ok (.aload_n 0, 1) := by decide +kernel
theorem dX7_isBytePart_18 : decode cX7_isBytePart 18 = .ok (.getfield 22, 3) := by decide +kernel
theorem dX7_isBytePart_21 : decode cX7_isBytePart 21 = .ok (.aload_n 0, 1) := by decide +kernel
theorem dX7_isBytePart_22 : decode cX7_isBytePart 22 = .ok (.getfield 25, 3) := by decide +kernel
theorem dX7_isBytePart_25 : decode cX7_isBytePart 25 = .ok (.iload_n 1, 1) := by decide +kernel
theorem dX7_isBytePart_26 : decode cX7_isBytePart 26 = .ok (.iaload, 1) := by decide +kernel
theorem dX7_isBytePart_27 : decode cX7_isBytePart 27 = .ok (.iaload, 1) := by decide +kernel
theorem dX7_isBytePart_28 : decode cX7_isBytePart 28 = .ok (.iload_n 3, 1) := by decide +kernel
theorem dX7_isBytePart_29 : decode cX7_isBytePart 29 = .ok (.isub, 1) := by decide +kernel
theorem dX7_isBytePart_30 : decode cX7_isBytePart 30 = .ok (.if_icmp .gt 7, 3) := by decide +kernel
theorem dX7_isBytePart_33 : decode cX7_isBytePart 33 = .ok (.iconst 1, 1) := by decide +kernel
theorem dX7_isBytePart_34 : decode cX7_isBytePart 34 = .ok (.goto 4, 3) := by decide +kernel
theorem dX7_isBytePart_37 : decode cX7_isBytePart 37 = .ok (.iconst 0, 1) := by decide +kernel
theorem dX7_isBytePart_38 : decode cX7_isBytePart 38 = .ok (.ireturn, 1) := by decide +kernel
theorem dX7_low_0 : decode cX7_low 0 = .ok (.iload_n 1, 1) := by decide +kernel
theorem dX7_low_1 : decode cX7_low 1 = .ok (.sipush 255, 3) := by decide +kernel
theorem dX7_low_4 : decode cX7_low 4 = .ok (.iand, 1) := by decide +kernel
theorem dX7_low_5 : decode cX7_low 5 = .ok (.istore_n 2, 1) := by decide +kernel
theorem dX7_low_6 : decode cX7_low 6 = .ok (.iload_n 2, 1) := by decide +kernel
theorem dX7_low_7 : decode cX7_low 7 = .ok (.sipush 128, 3) := by decide +kernel
theorem dX7_low_10 : decode cX7_low 10 = .ok (.if_icmp .ge 7, 3) := by decide +kernel
theorem dX7_low_13 : decode cX7_low 13 = .ok (.iload_n 2, 1) := by decide +kernel
theorem dX7_low_14 : decode cX7_low 14 = .ok (.goto 8, 3) := by decide +kernel
theorem dX7_low_17 : decode cX7_low 17 = .ok (.iload_n 2, 1) := by decide +kernel
theorem dX7_low_18 : decode cX7_low 18 = .ok (.sipush 256, 3) := by decide +kernel
theorem dX7_low_21 : decode cX7_low 21 = .ok (.isub, 1) := by decide +kernel
theorem dX7_low_22 : decode cX7_low 22 = .ok (.ireturn, 1) := by decide +kernel
theorem dX7_freeSigns_0 : decode cX7_freeSigns 0 = .ok (.iconst 0, 1) := by decide +kernel
theorem dX7_freeSigns_1 : decode cX7_freeSigns 1 = .ok (.istore_n 1, 1) := by decide +kernel
theorem dX7_freeSigns_2 : decode cX7_freeSigns 2 = .ok (.iload_n 1, 1) := by decide +kernel
theorem dX7_freeSigns_3 : decode cX7_freeSigns 3 = .ok (.bipush 8, 2) := by decide +kernel
theorem dX7_freeSigns_5 : decode cX7_freeSigns 5 = .ok (.if_icmp .ge 79, 3) := by decide +kernel
theorem dX7_freeSigns_8 : decode cX7_freeSigns 8 = .ok (.iconst 1, 1) := by decide +kernel
theorem dX7_freeSigns_9 : decode cX7_freeSigns 9 = .ok (.istore_n 2, 1) := by decide +kernel
theorem dX7_freeSigns_10 : decode cX7_freeSigns 10 = .ok (.iconst 0, 1) := by decide +kernel
theorem dX7_freeSigns_11 : decode cX7_freeSigns 11 = .ok (.istore_n 3, 1) := by decide +kernel
theorem dX7_freeSigns_12 : decode cX7_freeSigns 12 = .ok (.iload_n 3, 1) := by decide +kernel
theorem dX7_freeSigns_13 : decode cX7_freeSigns 13 = .ok (.iconst 4, 1) := by decide +kernel
theorem dX7_freeSigns_14 : decode cX7_freeSigns 14 = .ok (.if_icmp .ge 27, 3) := by decide +kernel
theorem dX7_freeSigns_17 : decode cX7_freeSigns 17 = .ok (.iload_n 2, 1) := by decide +kernel
theorem dX7_freeSigns_18 : decode cX7_freeSigns 18 = .ok (.aload_n 0, 1) := by decide +kernel
theorem dX7_freeSigns_19 : decode cX7_freeSigns 19 = .ok (.getfield 16, 3) := by decide +kernel
theorem dX7_freeSigns_22 : decode cX7_freeSigns 22 = .ok (.iload_n 3, 1) := by decide +kernel
theorem dX7_freeSigns_23 : decode cX7_freeSigns 23 = .ok (.iaload, 1) := by decide +kernel
theorem dX7_freeSigns_24 : decode cX7_freeSigns 24 = .ok (.iload_n 1, 1) := by decide +kernel
theorem dX7_freeSigns_25 : decode cX7_freeSigns 25 = .ok (.if_icmp .eq 7, 3) := by decide +kernel
theorem dX7_freeSigns_28 : decode cX7_freeSigns 28 = .ok (.iconst 1, 1) := by decide +kernel
theorem dX7_freeSigns_29 : decode cX7_freeSigns 29 = .ok (.goto 4, 3) := by decide +kernel
theorem dX7_freeSigns_32 : decode cX7_freeSigns 32 = .ok (.iconst 0, 1) := by decide +kernel
theorem dX7_freeSigns_33 : decode cX7_freeSigns 33 = .ok (.iand, 1) := by decide +kernel
theorem dX7_freeSigns_34 : decode cX7_freeSigns 34 = .ok (.istore_n 2, 1) := by decide +kernel
theorem dX7_freeSigns_35 : decode cX7_freeSigns 35 = .ok (.iinc 3 1, 3) := by decide +kernel
theorem dX7_freeSigns_38 : decode cX7_freeSigns 38 = .ok (.goto (-26), 3) := by decide +kernel
theorem dX7_freeSigns_41 : decode cX7_freeSigns 41 = .ok (.iconst 0, 1) := by decide +kernel
theorem dX7_freeSigns_42 : decode cX7_freeSigns 42 = .ok (.istore_n 3, 1) := by decide +kernel
theorem dX7_freeSigns_43 : decode cX7_freeSigns 43 = .ok (.iload_n 3, 1) := by decide +kernel
theorem dX7_freeSigns_44 : decode cX7_freeSigns 44 = .ok (.iconst 3, 1) := by decide +kernel
theorem dX7_freeSigns_45 : decode cX7_freeSigns 45 = .ok (.if_icmp .ge 27, 3) := by decide +kernel
theorem dX7_freeSigns_48 : decode cX7_freeSigns 48 = .ok (.iload_n 2, 1) := by decide +kernel
theorem dX7_freeSigns_49 : decode cX7_freeSigns 49 = .ok (.aload_n 0, 1) := by decide +kernel
theorem dX7_freeSigns_50 : decode cX7_freeSigns 50 = .ok (.getfield 34, 3) := by decide +kernel
theorem dX7_freeSigns_53 : decode cX7_freeSigns 53 = .ok (.iload_n 3, 1) := by decide +kernel
theorem dX7_freeSigns_54 : decode cX7_freeSigns 54 = .ok (.iaload, 1) := by decide +kernel
theorem dX7_freeSigns_55 : decode cX7_freeSigns 55 = .ok (.iload_n 1, 1) := by decide +kernel
theorem dX7_freeSigns_56 : decode cX7_freeSigns 56 = .ok (.if_icmp .eq 7, 3) := by decide +kernel
theorem dX7_freeSigns_59 : decode cX7_freeSigns 59 = .ok (.iconst 1, 1) := by decide +kernel
theorem dX7_freeSigns_60 : decode cX7_freeSigns 60 = .ok (.goto 4, 3) := by decide +kernel
theorem dX7_freeSigns_63 : decode cX7_freeSigns 63 = .ok (.iconst 0, 1) := by decide +kernel
theorem dX7_freeSigns_64 : decode cX7_freeSigns 64 = .ok (.iand, 1) := by decide +kernel
theorem dX7_freeSigns_65 : decode cX7_freeSigns 65 = .ok (.istore_n 2, 1) := by decide +kernel
theorem dX7_freeSigns_66 : decode cX7_freeSigns 66 = .ok (.iinc 3 1, 3) := by decide +kernel
theorem dX7_freeSigns_69 : decode cX7_freeSigns 69 = .ok (.goto (-26), 3) := by decide +kernel
theorem dX7_freeSigns_72 : decode cX7_freeSigns 72 = .ok (.iload_n 2, 1) := by decide +kernel
theorem dX7_freeSigns_73 : decode cX7_freeSigns 73 = .ok (.ifCond .eq 5, 3) := by decide +kernel
theorem dX7_freeSigns_76 : decode cX7_freeSigns 76 = .ok (.iload_n 1, 1) := by decide +kernel
theorem dX7_freeSigns_77 : decode cX7_freeSigns 77 = .ok (.ireturn, 1) := by decide +kernel
theorem dX7_freeSigns_78 : decode cX7_freeSigns 78 = .ok (.iinc 1 1, 3) := by decide +kernel
theorem dX7_freeSigns_81 : decode cX7_freeSigns 81 = .ok (.goto (-79), 3) := by decide +kernel
theorem dX7_freeSigns_84 : decode cX7_freeSigns 84 = .ok (.iconst (-1), 1) := by decide +kernel
theorem dX7_freeSigns_85 : decode cX7_freeSigns 85 = .ok (.ireturn, 1) := by decide +kernel
theorem dX7_freeBytes_0 : decode cX7_freeBytes 0 = .ok (.iconst 0, 1) := by decide +kernel
theorem dX7_freeBytes_1 : decode cX7_freeBytes 1 = .ok (.istore_n 1, 1) := by decide +kernel
theorem dX7_freeBytes_2 : decode cX7_freeBytes 2 = .ok (.iload_n 1, 1) := by decide +kernel
theorem dX7_freeBytes_3 : decode cX7_freeBytes 3 = .ok (.bipush 11, 2) := by decide +kernel
theorem dX7_freeBytes_5 : decode cX7_freeBytes 5 = .ok (.if_icmp .ge 80, 3) := by decide +kernel
theorem dX7_freeBytes_8 : decode cX7_freeBytes 8 = .ok (.iconst 1, 1) := by decide +kernel
theorem dX7_freeBytes_9 : decode cX7_freeBytes 9 = .ok (.istore_n 2, 1) := by decide +kernel
theorem dX7_freeBytes_10 : decode cX7_freeBytes 10 = .ok (.iconst 0, 1) := by decide +kernel
theorem dX7_freeBytes_11 : decode cX7_freeBytes 11 = .ok (.istore_n 3, 1) := by decide +kernel
theorem dX7_freeBytes_12 : decode cX7_freeBytes 12 = .ok (.iload_n 3, 1) := by decide +kernel
theorem dX7_freeBytes_13 : decode cX7_freeBytes 13 = .ok (.iconst 4, 1) := by decide +kernel
theorem dX7_freeBytes_14 : decode cX7_freeBytes 14 = .ok (.if_icmp .ge 27, 3) := by decide +kernel
theorem dX7_freeBytes_17 : decode cX7_freeBytes 17 = .ok (.iload_n 2, 1) := by decide +kernel
theorem dX7_freeBytes_18 : decode cX7_freeBytes 18 = .ok (.aload_n 0, 1) := by decide +kernel
theorem dX7_freeBytes_19 : decode cX7_freeBytes 19 = .ok (.getfield 25, 3) := by decide +kernel
theorem dX7_freeBytes_22 : decode cX7_freeBytes 22 = .ok (.iload_n 3, 1) := by decide +kernel
theorem dX7_freeBytes_23 : decode cX7_freeBytes 23 = .ok (.iaload, 1) := by decide +kernel
theorem dX7_freeBytes_24 : decode cX7_freeBytes 24 = .ok (.iload_n 1, 1) := by decide +kernel
theorem dX7_freeBytes_25 : decode cX7_freeBytes 25 = .ok (.if_icmp .eq 7, 3) := by decide +kernel
theorem dX7_freeBytes_28 : decode cX7_freeBytes 28 = .ok (.iconst 1, 1) := by decide +kernel
theorem dX7_freeBytes_29 : decode cX7_freeBytes 29 = .ok (.goto 4, 3) := by decide +kernel
theorem dX7_freeBytes_32 : decode cX7_freeBytes 32 = .ok (.iconst 0, 1) := by decide +kernel
theorem dX7_freeBytes_33 : decode cX7_freeBytes 33 = .ok (.iand, 1) := by decide +kernel
theorem dX7_freeBytes_34 : decode cX7_freeBytes 34 = .ok (.istore_n 2, 1) := by decide +kernel
theorem dX7_freeBytes_35 : decode cX7_freeBytes 35 = .ok (.iinc 3 1, 3) := by decide +kernel
theorem dX7_freeBytes_38 : decode cX7_freeBytes 38 = .ok (.goto (-26), 3) := by decide +kernel
theorem dX7_freeBytes_41 : decode cX7_freeBytes 41 = .ok (.iconst 0, 1) := by decide +kernel
theorem dX7_freeBytes_42 : decode cX7_freeBytes 42 = .ok (.istore_n 3, 1) := by decide +kernel
theorem dX7_freeBytes_43 : decode cX7_freeBytes 43 = .ok (.iload_n 3, 1) := by decide +kernel
theorem dX7_freeBytes_44 : decode cX7_freeBytes 44 = .ok (.bipush 6, 2) := by decide +kernel
theorem dX7_freeBytes_46 : decode cX7_freeBytes 46 = .ok (.if_icmp .ge 27, 3) := by decide +kernel
theorem dX7_freeBytes_49 : decode cX7_freeBytes 49 = .ok (.iload_n 2, 1) := by decide +kernel
theorem dX7_freeBytes_50 : decode cX7_freeBytes 50 = .ok (.aload_n 0, 1) := by decide +kernel
theorem dX7_freeBytes_51 : decode cX7_freeBytes 51 = .ok (.getfield 53, 3) := by decide +kernel
theorem dX7_freeBytes_54 : decode cX7_freeBytes 54 = .ok (.iload_n 3, 1) := by decide +kernel
theorem dX7_freeBytes_55 : decode cX7_freeBytes 55 = .ok (.iaload, 1) := by decide +kernel
theorem dX7_freeBytes_56 : decode cX7_freeBytes 56 = .ok (.iload_n 1, 1) := by decide +kernel
theorem dX7_freeBytes_57 : decode cX7_freeBytes 57 = .ok (.if_icmp .eq 7, 3) := by decide +kernel
theorem dX7_freeBytes_60 : decode cX7_freeBytes 60 = .ok (.iconst 1, 1) := by decide +kernel
theorem dX7_freeBytes_61 : decode cX7_freeBytes 61 = .ok (.goto 4, 3) := by decide +kernel
theorem dX7_freeBytes_64 : decode cX7_freeBytes 64 = .ok (.iconst 0, 1) := by decide +kernel
theorem dX7_freeBytes_65 : decode cX7_freeBytes 65 = .ok (.iand, 1) := by decide +kernel
theorem dX7_freeBytes_66 : decode cX7_freeBytes 66 = .ok (.istore_n 2, 1) := by decide +kernel
theorem dX7_freeBytes_67 : decode cX7_freeBytes 67 = .ok (.iinc 3 1, 3) := by decide +kernel
theorem dX7_freeBytes_70 : decode cX7_freeBytes 70 = .ok (.goto (-27), 3) := by decide +kernel
theorem dX7_freeBytes_73 : decode cX7_freeBytes 73 = .ok (.iload_n 2, 1) := by decide +kernel
theorem dX7_freeBytes_74 : decode cX7_freeBytes 74 = .ok (.ifCond .eq 5, 3) := by decide +kernel
theorem dX7_freeBytes_77 : decode cX7_freeBytes 77 = .ok (.iload_n 1, 1) := by decide +kernel
theorem dX7_freeBytes_78 : decode cX7_freeBytes 78 = .ok (.ireturn, 1) := by decide +kernel
theorem dX7_freeBytes_79 : decode cX7_freeBytes 79 = .ok (.iinc 1 1, 3) := by decide +kernel
theorem dX7_freeBytes_82 : decode cX7_freeBytes 82 = .ok (.goto (-80), 3) := by decide +kernel
theorem dX7_freeBytes_85 : decode cX7_freeBytes 85 = .ok (.iconst (-1), 1) := by decide +kernel
theorem dX7_freeBytes_86 : decode cX7_freeBytes 86 = .ok (.ireturn, 1) := by decide +kernel
set_option maxRecDepth 20000 in
theorem ggX7_becomes_X7_freeSigns : GoodIn wsX7_becomes wsX7_freeSigns := goodIn_ca (goodIn_r _ [9, 4, 10, 11, 12, 13, 14, 15, 16, 17, 18, 19, 20, 21, 22, 23, 24, 25, 26, 27, 28, 29, 30, 31] (by decide +kernel) (by decide +kernel)) (goodIn_sub (fun _ h => List.mem_cons_of_mem _ (List.mem_append_right _ h)) (by decide +kernel))
set_option maxRecDepth 20000 in
theorem gX7_becomes_X7_freeSigns : GoodIn wsX7_becomes (wsV RX7 83 RX7 yX7_freeSigns wsX7_freeSigns) := goodIn_app (goodIn_of _ (by decide +kernel)) ggX7_becomes_X7_freeSigns
theorem dX7_becomes_0 : decode cX7_becomes 0 = .ok (.aload_n 0, 1) := by decide +kernel
theorem dX7_becomes_1 : decode cX7_becomes 1 = .ok (.invokevirtual 83, 3) := by decide +kernel
theorem dX7_becomes_4 : decode cX7_becomes 4 = .ok (.istore_n 3, 1) := by decide +kernel
theorem dX7_becomes_5 : decode cX7_becomes 5 = .ok (.iconst 0, 1) := by decide +kernel
theorem dX7_becomes_6 : decode cX7_becomes 6 = .ok (.istore 4, 2) := by decide +kernel
theorem dX7_becomes_8 : decode cX7_becomes 8 = .ok (.iload 4, 2) := by decide +kernel
theorem dX7_becomes_10 : decode cX7_becomes 10 = .ok (.iload_n 2, 1) := by decide +kernel
theorem dX7_becomes_11 : decode cX7_becomes 11 = .ok (.if_icmp .ge 29, 3) := by decide +kernel
theorem dX7_becomes_14 : decode cX7_becomes 14 = .ok (.aload_n 0, 1) := by decide +kernel
theorem dX7_becomes_15 : decode cX7_becomes 15 = .ok (.getfield 7, 3) := by decide +kernel
theorem dX7_becomes_18 : decode cX7_becomes 18 = .ok (.sipush 256, 3) := by decide +kernel
theorem dX7_becomes_21 : decode cX7_becomes 21 = .ok (.iload_n 3, 1) := by decide +kernel
theorem dX7_becomes_22 : decode cX7_becomes 22 = .ok (.imul, 1) := by decide +kernel
theorem dX7_becomes_23 : decode cX7_becomes 23 = .ok (.iload 4, 2) := by decide +kernel
theorem dX7_becomes_25 : decode cX7_becomes 25 = .ok (.iadd, 1) := by decide +kernel
theorem dX7_becomes_26 : decode cX7_becomes 26 = .ok (.aload_n 0, 1) := by decide +kernel
theorem dX7_becomes_27 : decode cX7_becomes 27 = .ok (.getfield 68, 3) := by decide +kernel
theorem dX7_becomes_30 : decode cX7_becomes 30 = .ok (.iload 4, 2) := by decide +kernel
theorem dX7_becomes_32 : decode cX7_becomes 32 = .ok (.iaload, 1) := by decide +kernel
theorem dX7_becomes_33 : decode cX7_becomes 33 = .ok (.iastore, 1) := by decide +kernel
theorem dX7_becomes_34 : decode cX7_becomes 34 = .ok (.iinc 4 1, 3) := by decide +kernel
theorem dX7_becomes_37 : decode cX7_becomes 37 = .ok (.goto (-29), 3) := by decide +kernel
theorem dX7_becomes_40 : decode cX7_becomes 40 = .ok (.aload_n 0, 1) := by decide +kernel
theorem dX7_becomes_41 : decode cX7_becomes 41 = .ok (.getfield 13, 3) := by decide +kernel
theorem dX7_becomes_44 : decode cX7_becomes 44 = .ok (.iload_n 3, 1) := by decide +kernel
theorem dX7_becomes_45 : decode cX7_becomes 45 = .ok (.iload_n 2, 1) := by decide +kernel
theorem dX7_becomes_46 : decode cX7_becomes 46 = .ok (.iastore, 1) := by decide +kernel
theorem dX7_becomes_47 : decode cX7_becomes 47 = .ok (.aload_n 0, 1) := by decide +kernel
theorem dX7_becomes_48 : decode cX7_becomes 48 = .ok (.getfield 16, 3) := by decide +kernel
theorem dX7_becomes_51 : decode cX7_becomes 51 = .ok (.iload_n 1, 1) := by decide +kernel
theorem dX7_becomes_52 : decode cX7_becomes 52 = .ok (.iload_n 3, 1) := by decide +kernel
theorem dX7_becomes_53 : decode cX7_becomes 53 = .ok (.iastore, 1) := by decide +kernel
theorem dX7_becomes_54 : decode cX7_becomes 54 = .ok (.return_, 1) := by decide +kernel
set_option maxRecDepth 20000 in
theorem ggX7_make_X7_isRow : GoodIn wsX7_make wsX7_isRow := goodIn_r _ [6] (by decide +kernel) (by decide +kernel)
set_option maxRecDepth 20000 in
theorem gX7_make_X7_isRow : GoodIn wsX7_make (wsV RX7 75 RX7 yX7_isRow wsX7_isRow) := goodIn_app (goodIn_of _ (by decide +kernel)) ggX7_make_X7_isRow
set_option maxRecDepth 20000 in
theorem ggX7_make_X7_isWrong : GoodIn wsX7_make wsX7_isWrong := goodIn_r _ [10, 11, 28, 29, 30, 31, 32, 33, 34, 35, 36, 37, 38, 39, 40, 41, 42, 43, 44, 45, 46, 47, 48] (by decide +kernel) (by decide +kernel)
set_option maxRecDepth 20000 in
theorem gX7_make_X7_isWrong : GoodIn wsX7_make (wsV RX7 87 RX7 yX7_isWrong wsX7_isWrong) := goodIn_app (goodIn_of _ (by decide +kernel)) ggX7_make_X7_isWrong
set_option maxRecDepth 20000 in
theorem ggX7_make_X7_signLength : GoodIn wsX7_make wsX7_signLength := goodIn_ca (goodIn_r _ [15, 16, 17, 28, 29, 30, 31, 32, 33, 34, 35, 36, 37, 38, 39, 40, 41, 42, 43, 44, 45, 46, 47, 48] (by decide +kernel) (by decide +kernel)) (goodIn_sub (fun _ h => List.mem_cons_of_mem _ (List.mem_append_right _ h)) (by decide +kernel))
set_option maxRecDepth 20000 in
theorem gX7_make_X7_signLength : GoodIn wsX7_make (wsV RX7 79 RX7 yX7_signLength wsX7_signLength) := goodIn_app (goodIn_of _ (by decide +kernel)) ggX7_make_X7_signLength
set_option maxRecDepth 20000 in
theorem ggX7_make_X7_becomes : GoodIn wsX7_make wsX7_becomes := goodIn_ca (goodIn_r _ [21, 22, 1, 16, 17, 23, 24, 25, 5, 26, 27, 28, 29, 30, 31, 32, 33, 34, 35, 36, 37, 38, 39, 40, 41, 42, 43, 44, 45, 46, 47, 48] (by decide +kernel) (by decide +kernel)) (goodIn_sub (fun _ h => List.mem_cons_of_mem _ (List.mem_append_right _ h)) (by decide +kernel))
set_option maxRecDepth 20000 in
theorem gX7_make_X7_becomes : GoodIn wsX7_make (wsV RX7 90 RX7 yX7_becomes wsX7_becomes) := goodIn_app (goodIn_of _ (by decide +kernel)) ggX7_make_X7_becomes
theorem dX7_make_0 : decode cX7_make 0 = .ok (.aload_n 0, 1) := by decide +kernel
theorem dX7_make_1 : decode cX7_make 1 = .ok (.aload_n 0, 1) := by decide +kernel
theorem dX7_make_2 : decode cX7_make 2 = .ok (.iload_n 1, 1) := by decide +kernel
theorem dX7_make_3 : decode cX7_make 3 = .ok (.invokevirtual 75, 3) := by decide +kernel
theorem dX7_make_6 : decode cX7_make 6 = .ok (.ifCond .ne 7, 3) := by decide +kernel
theorem dX7_make_9 : decode cX7_make 9 = .ok (.iconst 1, 1) := by decide +kernel
theorem dX7_make_10 : decode cX7_make 10 = .ok (.goto 19, 3) := by decide +kernel
theorem dX7_make_13 : decode cX7_make 13 = .ok (.iload_n 2, 1) := by decide +kernel
theorem dX7_make_14 : decode cX7_make 14 = .ok (.ifCond .lt 10, 3) := by decide +kernel
theorem dX7_make_17 : decode cX7_make 17 = .ok (.iload_n 2, 1) := by decide +kernel
theorem dX7_make_18 : decode cX7_make 18 = .ok (.sipush 256, 3) := by decide +kernel
theorem dX7_make_21 : decode cX7_make 21 = .ok (.if_icmp .le 7, 3) := by decide +kernel
theorem dX7_make_24 : decode cX7_make 24 = .ok (.iconst 2, 1) := by decide +kernel
theorem dX7_make_25 : decode cX7_make 25 = .ok (.goto 4, 3) := by decide +kernel
theorem dX7_make_28 : decode cX7_make 28 = .ok (.iconst 0, 1) := by decide +kernel
theorem dX7_make_29 : decode cX7_make 29 = .ok (.invokevirtual 87, 3) := by decide +kernel
theorem dX7_make_32 : decode cX7_make 32 = .ok (.ifCond .eq 5, 3) := by decide +kernel
theorem dX7_make_35 : decode cX7_make 35 = .ok (.iconst 0, 1) := by decide +kernel
theorem dX7_make_36 : decode cX7_make 36 = .ok (.ireturn, 1) := by decide +kernel
theorem dX7_make_37 : decode cX7_make 37 = .ok (.aload_n 0, 1) := by decide +kernel
theorem dX7_make_38 : decode cX7_make 38 = .ok (.iload_n 1, 1) := by decide +kernel
theorem dX7_make_39 : decode cX7_make 39 = .ok (.invokevirtual 79, 3) := by decide +kernel
theorem dX7_make_42 : decode cX7_make 42 = .ok (.istore_n 3, 1) := by decide +kernel
theorem dX7_make_43 : decode cX7_make 43 = .ok (.iconst 0, 1) := by decide +kernel
theorem dX7_make_44 : decode cX7_make 44 = .ok (.istore 4, 2) := by decide +kernel
theorem dX7_make_46 : decode cX7_make 46 = .ok (.iload 4, 2) := by decide +kernel
theorem dX7_make_48 : decode cX7_make 48 = .ok (.iload_n 2, 1) := by decide +kernel
theorem dX7_make_49 : decode cX7_make 49 = .ok (.if_icmp .ge 17, 3) := by decide +kernel
theorem dX7_make_52 : decode cX7_make 52 = .ok (.aload_n 0, 1) := by decide +kernel
theorem dX7_make_53 : decode cX7_make 53 = .ok (.getfield 68, 3) := by decide +kernel
theorem dX7_make_56 : decode cX7_make 56 = .ok (.iload 4, 2) := by decide +kernel
theorem dX7_make_58 : decode cX7_make 58 = .ok (.iconst 0, 1) := by decide +kernel
theorem dX7_make_59 : decode cX7_make 59 = .ok (.iastore, 1) := by decide +kernel
theorem dX7_make_60 : decode cX7_make 60 = .ok (.iinc 4 1, 3) := by decide +kernel
theorem dX7_make_63 : decode cX7_make 63 = .ok (.goto (-17), 3) := by decide +kernel
theorem dX7_make_66 : decode cX7_make 66 = .ok (.aload_n 0, 1) := by decide +kernel
theorem dX7_make_67 : decode cX7_make 67 = .ok (.iload_n 1, 1) := by decide +kernel
theorem dX7_make_68 : decode cX7_make 68 = .ok (.iload_n 2, 1) := by decide +kernel
theorem dX7_make_69 : decode cX7_make 69 = .ok (.invokevirtual 90, 3) := by decide +kernel
theorem dX7_make_72 : decode cX7_make 72 = .ok (.iload_n 3, 1) := by decide +kernel
theorem dX7_make_73 : decode cX7_make 73 = .ok (.ireturn, 1) := by decide +kernel
set_option maxRecDepth 20000 in
theorem ggX7_put_X7_isPart : GoodIn wsX7_put wsX7_isPart := goodIn_ca (goodIn_r _ [7, 8, 9, 10, 6, 11, 12, 13, 14, 15, 16, 1, 22, 23, 24, 25, 26, 27, 28, 29, 30, 31, 32, 33, 34, 35, 36, 37, 38, 39, 40, 41, 42] (by decide +kernel) (by decide +kernel)) (goodIn_sub (fun _ h => List.mem_cons_of_mem _ (List.mem_append_right _ h)) (by decide +kernel))
set_option maxRecDepth 20000 in
theorem gX7_put_X7_isPart : GoodIn wsX7_put (wsV RX7 94 RX7 yX7_isPart wsX7_isPart) := goodIn_app (goodIn_of _ (by decide +kernel)) ggX7_put_X7_isPart
set_option maxRecDepth 20000 in
theorem ggX7_put_X7_isWrong : GoodIn wsX7_put wsX7_isWrong := goodIn_r _ [20, 21, 22, 23, 24, 25, 26, 27, 28, 29, 30, 31, 32, 33, 34, 35, 36, 37, 38, 39, 40, 41, 42] (by decide +kernel) (by decide +kernel)
set_option maxRecDepth 20000 in
theorem gX7_put_X7_isWrong : GoodIn wsX7_put (wsV RX7 87 RX7 yX7_isWrong wsX7_isWrong) := goodIn_app (goodIn_of _ (by decide +kernel)) ggX7_put_X7_isWrong
theorem dX7_put_0 : decode cX7_put 0 = .ok (.aload_n 0, 1) := by decide +kernel
theorem dX7_put_1 : decode cX7_put 1 = .ok (.aload_n 0, 1) := by decide +kernel
theorem dX7_put_2 : decode cX7_put 2 = .ok (.iload_n 1, 1) := by decide +kernel
theorem dX7_put_3 : decode cX7_put 3 = .ok (.iload_n 2, 1) := by decide +kernel
theorem dX7_put_4 : decode cX7_put 4 = .ok (.iconst 1, 1) := by decide +kernel
theorem dX7_put_5 : decode cX7_put 5 = .ok (.invokevirtual 94, 3) := by decide +kernel
theorem dX7_put_8 : decode cX7_put 8 = .ok (.ifCond .eq 7, 3) := by decide +kernel
theorem dX7_put_11 : decode cX7_put 11 = .ok (.iconst 0, 1) := by decide +kernel
theorem dX7_put_12 : decode cX7_put 12 = .ok (.goto 4, 3) := by decide +kernel
theorem dX7_put_15 : decode cX7_put 15 = .ok (.iconst 1, 1) := by decide +kernel
theorem dX7_put_16 : decode cX7_put 16 = .ok (.invokevirtual 87, 3) := by decide +kernel
theorem dX7_put_19 : decode cX7_put 19 = .ok (.ifCond .eq 5, 3) := by decide +kernel
theorem dX7_put_22 : decode cX7_put 22 = .ok (.iconst 0, 1) := by decide +kernel
theorem dX7_put_23 : decode cX7_put 23 = .ok (.ireturn, 1) := by decide +kernel
theorem dX7_put_24 : decode cX7_put 24 = .ok (.sipush 256, 3) := by decide +kernel
theorem dX7_put_27 : decode cX7_put 27 = .ok (.aload_n 0, 1) := by decide +kernel
theorem dX7_put_28 : decode cX7_put 28 = .ok (.getfield 16, 3) := by decide +kernel
theorem dX7_put_31 : decode cX7_put 31 = .ok (.iload_n 1, 1) := by decide +kernel
theorem dX7_put_32 : decode cX7_put 32 = .ok (.iaload, 1) := by decide +kernel
theorem dX7_put_33 : decode cX7_put 33 = .ok (.imul, 1) := by decide +kernel
theorem dX7_put_34 : decode cX7_put 34 = .ok (.iload_n 2, 1) := by decide +kernel
theorem dX7_put_35 : decode cX7_put 35 = .ok (.iadd, 1) := by decide +kernel
theorem dX7_put_36 : decode cX7_put 36 = .ok (.istore 4, 2) := by decide +kernel
theorem dX7_put_38 : decode cX7_put 38 = .ok (.aload_n 0, 1) := by decide +kernel
theorem dX7_put_39 : decode cX7_put 39 = .ok (.getfield 7, 3) := by decide +kernel
theorem dX7_put_42 : decode cX7_put 42 = .ok (.iload 4, 2) := by decide +kernel
theorem dX7_put_44 : decode cX7_put 44 = .ok (.iaload, 1) := by decide +kernel
theorem dX7_put_45 : decode cX7_put 45 = .ok (.istore 5, 2) := by decide +kernel
theorem dX7_put_47 : decode cX7_put 47 = .ok (.aload_n 0, 1) := by decide +kernel
theorem dX7_put_48 : decode cX7_put 48 = .ok (.getfield 7, 3) := by decide +kernel
theorem dX7_put_51 : decode cX7_put 51 = .ok (.iload 4, 2) := by decide +kernel
theorem dX7_put_53 : decode cX7_put 53 = .ok (.iload_n 3, 1) := by decide +kernel
theorem dX7_put_54 : decode cX7_put 54 = .ok (.sipush 255, 3) := by decide +kernel
theorem dX7_put_57 : decode cX7_put 57 = .ok (.iand, 1) := by decide +kernel
theorem dX7_put_58 : decode cX7_put 58 = .ok (.iastore, 1) := by decide +kernel
theorem dX7_put_59 : decode cX7_put 59 = .ok (.iload 5, 2) := by decide +kernel
theorem dX7_put_61 : decode cX7_put 61 = .ok (.i2c, 1) := by decide +kernel
theorem dX7_put_62 : decode cX7_put 62 = .ok (.ireturn, 1) := by decide +kernel
set_option maxRecDepth 20000 in
theorem ggX7_fill_X7_isPart : GoodIn wsX7_fill wsX7_isPart := goodIn_ca (goodIn_r _ [7, 8, 9, 10, 6, 11, 12, 13, 14, 15, 16, 1, 22, 23, 24, 25, 26, 27, 28, 29, 30, 31, 32, 33, 34, 35, 36, 37, 38, 39, 40, 41, 42] (by decide +kernel) (by decide +kernel)) (goodIn_sub (fun _ h => List.mem_cons_of_mem _ (List.mem_append_right _ h)) (by decide +kernel))
set_option maxRecDepth 20000 in
theorem gX7_fill_X7_isPart : GoodIn wsX7_fill (wsV RX7 94 RX7 yX7_isPart wsX7_isPart) := goodIn_app (goodIn_of _ (by decide +kernel)) ggX7_fill_X7_isPart
set_option maxRecDepth 20000 in
theorem ggX7_fill_X7_isWrong : GoodIn wsX7_fill wsX7_isWrong := goodIn_r _ [20, 21, 22, 23, 24, 25, 26, 27, 28, 29, 30, 31, 32, 33, 34, 35, 36, 37, 38, 39, 40, 41, 42] (by decide +kernel) (by decide +kernel)
set_option maxRecDepth 20000 in
theorem gX7_fill_X7_isWrong : GoodIn wsX7_fill (wsV RX7 87 RX7 yX7_isWrong wsX7_isWrong) := goodIn_app (goodIn_of _ (by decide +kernel)) ggX7_fill_X7_isWrong

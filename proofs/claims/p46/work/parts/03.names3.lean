theorem dX6_arrayWriterAt_21 : decode cX6_arrayWriterAt 21 = .ok (.getfield 31, 3) := by decide +kernel
theorem dX6_arrayWriterAt_24 : decode cX6_arrayWriterAt 24 = .ok (.iload_n 1, 1) := by decide +kernel
theorem dX6_arrayWriterAt_25 : decode cX6_arrayWriterAt 25 = .ok (.aaload, 1) := by decide +kernel
theorem dX6_arrayWriterAt_26 : decode cX6_arrayWriterAt 26 = .ok (.areturn, 1) := by decide +kernel
theorem dX6_readerAt_0 : decode cX6_readerAt 0 = .ok (.iload_n 1, 1) := by decide +kernel
theorem dX6_readerAt_1 : decode cX6_readerAt 1 = .ok (.ifCond .lt 8, 3) := by decide +kernel
theorem dX6_readerAt_4 : decode cX6_readerAt 4 = .ok (.iload_n 1, 1) := by decide +kernel
theorem dX6_readerAt_5 : decode cX6_readerAt 5 = .ok (.iconst 3, 1) := by decide +kernel
theorem dX6_readerAt_6 : decode cX6_readerAt 6 = .ok (.if_icmp .lt 14, 3) := by decide +kernel
theorem dX6_readerAt_9 : decode cX6_readerAt 9 = .ok (.new 260, 3) := by decide +kernel
theorem dX6_readerAt_12 : decode cX6_readerAt 12 = .ok (.dup, 1) := by decide +kernel
theorem dX6_readerAt_13 : decode cX6_readerAt 13 = .ok (.ldc_w 271, 3) := by decide +kernel
theorem dX6_readerAt_16 : decode cX6_readerAt 16 = .ok (.invokespecial 264, 3) := by decide +kernel
theorem dX6_readerAt_19 : decode cX6_readerAt 19 = .ok (.athrow, 1) := by decide +kernel
theorem dX6_readerAt_20 : decode cX6_readerAt 20 = .ok (.aload_n 0, 1) := by decide +kernel
theorem dX6_readerAt_21 : decode cX6_readerAt 21 = .ok (.getfield 37, 3) := by decide +kernel
theorem dX6_readerAt_24 : decode cX6_readerAt 24 = .ok (.iload_n 1, 1) := by decide +kernel
theorem dX6_readerAt_25 : decode cX6_readerAt 25 = .ok (.aaload, 1) := by decide +kernel
theorem dX6_readerAt_26 : decode cX6_readerAt 26 = .ok (.areturn, 1) := by decide +kernel
set_option maxRecDepth 20000 in
theorem ggX6_openReaderAt_X6_readerAt : GoodIn wsX6_openReaderAt wsX6_readerAt := goodIn_ca (goodIn_r _ [9, 10, 11, 12, 19, 20, 21, 22, 23, 24, 25] (by decide +kernel) (by decide +kernel)) (goodIn_sub (fun _ h => List.mem_cons_of_mem _ (List.mem_append_right _ h)) (by decide +kernel))
set_option maxRecDepth 20000 in
theorem gX6_openReaderAt_X6_readerAt : GoodIn wsX6_openReaderAt (wsV RX6 128 RX6 yX6_readerAt wsX6_readerAt) := goodIn_app (goodIn_of _ (by decide +kernel)) ggX6_openReaderAt_X6_readerAt
theorem dX6_openReaderAt_0 : decode cX6_openReaderAt 0 = .ok (.aload_n 0, 1) := by decide +kernel
theorem dX6_openReaderAt_1 : decode cX6_openReaderAt 1 = .ok (.iload_n 1, 1) := by decide +kernel
theorem dX6_openReaderAt_2 : decode cX6_openReaderAt 2 = .ok (.invokevirtual 128, 3) := by decide +kernel
theorem dX6_openReaderAt_5 : decode cX6_openReaderAt 5 = .ok (.astore_n 2, 1) := by decide +kernel
theorem dX6_openReaderAt_6 : decode cX6_openReaderAt 6 = .ok (.aload_n 2, 1) := by decide +kernel
theorem dX6_openReaderAt_7 : decode cX6_openReaderAt 7 = .ok (.getfield 143, 3) := by decide +kernel
theorem dX6_openReaderAt_10 : decode cX6_openReaderAt 10 = .ok (.ifCond .eq 10, 3) := by decide +kernel
theorem dX6_openReaderAt_13 : decode cX6_openReaderAt 13 = .ok (.aload_n 2, 1) := by decide +kernel
theorem dX6_openReaderAt_14 : decode cX6_openReaderAt 14 = .ok (.getfield 152, 3) := by decide +kernel
theorem dX6_openReaderAt_17 : decode cX6_openReaderAt 17 = .ok (.ifCond .eq 14, 3) := by decide +kernel
theorem dX6_openReaderAt_20 : decode cX6_openReaderAt 20 = .ok (.new 147, 3) := by decide +kernel
theorem dX6_openReaderAt_23 : decode cX6_openReaderAt 23 = .ok (.dup, 1) := by decide +kernel
theorem dX6_openReaderAt_24 : decode cX6_openReaderAt 24 = .ok (.ldc_w 273, 3) := by decide +kernel
theorem dX6_openReaderAt_27 : decode cX6_openReaderAt 27 = .ok (.invokespecial 151, 3) := by decide +kernel
theorem dX6_openReaderAt_30 : decode cX6_openReaderAt 30 = .ok (.athrow, 1) := by decide +kernel
theorem dX6_openReaderAt_31 : decode cX6_openReaderAt 31 = .ok (.aload_n 2, 1) := by decide +kernel
theorem dX6_openReaderAt_32 : decode cX6_openReaderAt 32 = .ok (.areturn, 1) := by decide +kernel
theorem dX6_requirePlace_0 : decode cX6_requirePlace 0 = .ok (.iload_n 0, 1) := by decide +kernel
theorem dX6_requirePlace_1 : decode cX6_requirePlace 1 = .ok (.ifCond .lt 8, 3) := by decide +kernel
theorem dX6_requirePlace_4 : decode cX6_requirePlace 4 = .ok (.iload_n 0, 1) := by decide +kernel
theorem dX6_requirePlace_5 : decode cX6_requirePlace 5 = .ok (.iload_n 1, 1) := by decide +kernel
theorem dX6_requirePlace_6 : decode cX6_requirePlace 6 = .ok (.if_icmp .lt 14, 3) := by decide +kernel
theorem dX6_requirePlace_9 : decode cX6_requirePlace 9 = .ok (.new 260, 3) := by decide +kernel
theorem dX6_requirePlace_12 : decode cX6_requirePlace 12 = .ok (.dup, 1) := by decide +kernel
theorem dX6_requirePlace_13 : decode cX6_requirePlace 13 = .ok (.ldc_w 279, 3) := by decide +kernel
theorem dX6_requirePlace_16 : decode cX6_requirePlace 16 = .ok (.invokespecial 264, 3) := by decide +kernel
theorem dX6_requirePlace_19 : decode cX6_requirePlace 19 = .ok (.athrow, 1) := by decide +kernel
theorem dX6_requirePlace_20 : decode cX6_requirePlace 20 = .ok (.return_, 1) := by decide +kernel
theorem dX6_requirePlaces_0 : decode cX6_requirePlaces 0 = .ok (.iload_n 0, 1) := by decide +kernel
theorem dX6_requirePlaces_1 : decode cX6_requirePlaces 1 = .ok (.ifCond .lt 19, 3) := by decide +kernel
theorem dX6_requirePlaces_4 : decode cX6_requirePlaces 4 = .ok (.iload_n 1, 1) := by decide +kernel
theorem dX6_requirePlaces_5 : decode cX6_requirePlaces 5 = .ok (.ifCond .lt 15, 3) := by decide +kernel
theorem dX6_requirePlaces_8 : decode cX6_requirePlaces 8 = .ok (.iload_n 0, 1) := by decide +kernel
theorem dX6_requirePlaces_9 : decode cX6_requirePlaces 9 = .ok (.iload_n 2, 1) := by decide +kernel
theorem dX6_requirePlaces_10 : decode cX6_requirePlaces 10 = .ok (.if_icmp .gt 10, 3) := by decide +kernel
theorem dX6_requirePlaces_13 : decode cX6_requirePlaces 13 = .ok (.iload_n 1, 1) := by decide +kernel
theorem dX6_requirePlaces_14 : decode cX6_requirePlaces 14 = .ok (.iload_n 2, 1) := by decide +kernel
theorem dX6_requirePlaces_15 : decode cX6_requirePlaces 15 = .ok (.iload_n 0, 1) := by decide +kernel
theorem dX6_requirePlaces_16 : decode cX6_requirePlaces 16 = .ok (.isub, 1) := by decide +kernel
theorem dX6_requirePlaces_17 : decode cX6_requirePlaces 17 = .ok (.if_icmp .le 14, 3) := by decide +kernel
theorem dX6_requirePlaces_20 : decode cX6_requirePlaces 20 = .ok (.new 260, 3) := by decide +kernel
theorem dX6_requirePlaces_23 : decode cX6_requirePlaces 23 = .ok (.dup, 1) := by decide +kernel
theorem dX6_requirePlaces_24 : decode cX6_requirePlaces 24 = .ok (.ldc_w 281, 3) := by decide +kernel
theorem dX6_requirePlaces_27 : decode cX6_requirePlaces 27 = .ok (.invokespecial 264, 3) := by decide +kernel
theorem dX6_requirePlaces_30 : decode cX6_requirePlaces 30 = .ok (.athrow, 1) := by decide +kernel
theorem dX6_requirePlaces_31 : decode cX6_requirePlaces 31 = .ok (.return_, 1) := by decide +kernel
theorem dX6_requireSome_0 : decode cX6_requireSome 0 = .ok (.iload_n 0, 1) := by decide +kernel
theorem dX6_requireSome_1 : decode cX6_requireSome 1 = .ok (.iconst 1, 1) := by decide +kernel
theorem dX6_requireSome_2 : decode cX6_requireSome 2 = .ok (.if_icmp .ge 14, 3) := by decide +kernel
theorem dX6_requireSome_5 : decode cX6_requireSome 5 = .ok (.new 64, 3) := by decide +kernel
theorem dX6_requireSome_8 : decode cX6_requireSome 8 = .ok (.dup, 1) := by decide +kernel
theorem dX6_requireSome_9 : decode cX6_requireSome 9 = .ok (.ldc_w 283, 3) := by decide +kernel
theorem dX6_requireSome_12 : decode cX6_requireSome 12 = .ok (.invokespecial 68, 3) := by decide +kernel
theorem dX6_requireSome_15 : decode cX6_requireSome 15 = .ok (.athrow, 1) := by decide +kernel
theorem dX6_requireSome_16 : decode cX6_requireSome 16 = .ok (.return_, 1) := by decide +kernel
theorem dX6_requireWanted_0 : decode cX6_requireWanted 0 = .ok (.lload_n 0, 1) := by decide +kernel
theorem dX6_requireWanted_1 : decode cX6_requireWanted 1 = .ok (.lconst 0, 1) := by decide +kernel
theorem dX6_requireWanted_2 : decode cX6_requireWanted 2 = .ok (.lcmp, 1) := by decide +kernel
theorem dX6_requireWanted_3 : decode cX6_requireWanted 3 = .ok (.ifCond .lt 11, 3) := by decide +kernel
theorem dX6_requireWanted_6 : decode cX6_requireWanted 6 = .ok (.lload_n 0, 1) := by decide +kernel
theorem dX6_requireWanted_7 : decode cX6_requireWanted 7 = .ok (.ldc2_w 285, 3) := by decide +kernel
theorem dX6_requireWanted_10 : decode cX6_requireWanted 10 = .ok (.lcmp, 1) := by decide +kernel
theorem dX6_requireWanted_11 : decode cX6_requireWanted 11 = .ok (.ifCond .le 14, 3) := by decide +kernel
theorem dX6_requireWanted_14 : decode cX6_requireWanted 14 = .ok (.new 64, 3) := by decide +kernel
theorem dX6_requireWanted_17 : decode cX6_requireWanted 17 = .ok (.dup, 1) := by decide +kernel
theorem dX6_requireWanted_18 : decode cX6_requireWanted 18 = .ok (.ldc_w 287, 3) := by decide +kernel
theorem dX6_requireWanted_21 : decode cX6_requireWanted 21 = .ok (.invokespecial 68, 3) := by decide +kernel
theorem dX6_requireWanted_24 : decode cX6_requireWanted 24 = .ok (.athrow, 1) := by decide +kernel
theorem dX6_requireWanted_25 : decode cX6_requireWanted 25 = .ok (.return_, 1) := by decide +kernel
theorem dX6_requireRoom_0 : decode cX6_requireRoom 0 = .ok (.iload_n 1, 1) := by decide +kernel
theorem dX6_requireRoom_1 : decode cX6_requireRoom 1 = .ok (.sipush 256, 3) := by decide +kernel
theorem dX6_requireRoom_4 : decode cX6_requireRoom 4 = .ok (.aload_n 0, 1) := by decide +kernel
theorem dX6_requireRoom_5 : decode cX6_requireRoom 5 = .ok (.getfield 107, 3) := by decide +kernel
theorem dX6_requireRoom_8 : decode cX6_requireRoom 8 = .ok (.isub, 1) := by decide +kernel
theorem dX6_requireRoom_9 : decode cX6_requireRoom 9 = .ok (.if_icmp .le 14, 3) := by decide +kernel
theorem dX6_requireRoom_12 : decode cX6_requireRoom 12 = .ok (.new 168, 3) := by decide +kernel
theorem dX6_requireRoom_15 : decode cX6_requireRoom 15 = .ok (.dup, 1) := by decide +kernel
theorem dX6_requireRoom_16 : decode cX6_requireRoom 16 = .ok (.ldc_w 289, 3) := by decide +kernel
theorem dX6_requireRoom_19 : decode cX6_requireRoom 19 = .ok (.invokespecial 172, 3) := by decide +kernel
theorem dX6_requireRoom_22 : decode cX6_requireRoom 22 = .ok (.athrow, 1) := by decide +kernel
theorem dX6_requireRoom_23 : decode cX6_requireRoom 23 = .ok (.return_, 1) := by decide +kernel
set_option maxRecDepth 20000 in
theorem ggX6_addPart_X6_signRowAt : GoodIn wsX6_addPart wsX6_signRowAt := goodIn_ca (goodIn_r _ [7, 8, 9, 10, 29, 30, 31, 32, 33, 34, 35] (by decide +kernel) (by decide +kernel)) (goodIn_sub (fun _ h => List.mem_cons_of_mem _ (List.mem_append_left _ (List.mem_append_left _ (List.mem_append_right _ h)))) (by decide +kernel))
set_option maxRecDepth 20000 in
theorem gX6_addPart_X6_signRowAt : GoodIn wsX6_addPart (wsV RX6 56 RX6 yX6_signRowAt wsX6_signRowAt) := goodIn_app (goodIn_of _ (by decide +kernel)) ggX6_addPart_X6_signRowAt
set_option maxRecDepth 20000 in
theorem ggX6_addPart_X6_requirePlaces : GoodIn wsX6_addPart wsX6_requirePlaces := goodIn_ca (goodIn_r _ [13, 8, 9] (by decide +kernel) (by decide +kernel)) (goodIn_sub (fun _ h => List.mem_cons_of_mem _ (List.mem_append_left _ (List.mem_append_left _ (List.mem_append_right _ h)))) (by decide +kernel))
set_option maxRecDepth 20000 in
theorem gX6_addPart_X6_requirePlaces : GoodIn wsX6_addPart (va_wsS RX6 79 yX6_requirePlaces wsX6_requirePlaces) := goodIn_app (goodIn_of _ (by decide +kernel)) ggX6_addPart_X6_requirePlaces
set_option maxRecDepth 20000 in
theorem ggX6_addPart_X6_requireRoom : GoodIn wsX6_addPart wsX6_requireRoom := goodIn_ca (goodIn_r _ [16, 17, 18, 2, 27, 28] (by decide +kernel) (by decide +kernel)) (goodIn_sub (fun _ h => List.mem_cons_of_mem _ (List.mem_append_left _ (List.mem_append_right _ h))) (by decide +kernel))
set_option maxRecDepth 20000 in
theorem gX6_addPart_X6_requireRoom : GoodIn wsX6_addPart (va_wsS RX6 291 yX6_requireRoom wsX6_requireRoom) := goodIn_app (goodIn_of _ (by decide +kernel)) ggX6_addPart_X6_requireRoom
set_option maxRecDepth 20000 in
theorem ggX6_addPart_X4_addAll : GoodIn wsX6_addPart wsX4_addAll := goodIn_ca (goodIn_r _ [23, 24, 25, 27, 28] (by decide +kernel) (by decide +kernel)) (goodIn_sub (fun _ h => List.mem_cons_of_mem _ (List.mem_append_right _ h)) (by decide +kernel))
set_option maxRecDepth 20000 in
theorem gX6_addPart_X4_addAll : GoodIn wsX6_addPart (wsV RX6 299 RX4 yX4_addAll wsX4_addAll) := goodIn_app (goodIn_of _ (by decide +kernel)) ggX6_addPart_X4_addAll
theorem dX6_addPart_0 : decode cX6_addPart 0 = .ok (.aload_n 0, 1) := by decide +kernel
theorem dX6_addPart_1 : decode cX6_addPart 1 = .ok (.iload_n 2, 1) := by decide +kernel
theorem dX6_addPart_2 : decode cX6_addPart 2 = .ok (.invokevirtual 56, 3) := by decide +kernel
theorem dX6_addPart_5 : decode cX6_addPart 5 = .ok (.getfield 60, 3) := by decide +kernel
theorem dX6_addPart_8 : decode cX6_addPart 8 = .ok (.astore 5, 2) := by decide +kernel
theorem dX6_addPart_10 : decode cX6_addPart 10 = .ok (.iload_n 3, 1) := by decide +kernel
theorem dX6_addPart_11 : decode cX6_addPart 11 = .ok (.iload 4, 2) := by decide +kernel
theorem dX6_addPart_13 : decode cX6_addPart 13 = .ok (.aload 5, 2) := by decide +kernel
theorem dX6_addPart_15 : decode cX6_addPart 15 = .ok (.arraylength, 1) := by decide +kernel
theorem dX6_addPart_16 : decode cX6_addPart 16 = .ok (.invokestatic 79, 3) := by decide +kernel
theorem dX6_addPart_19 : decode cX6_addPart 19 = .ok (.aload_n 1, 1) := by decide +kernel
theorem dX6_addPart_20 : decode cX6_addPart 20 = .ok (.iload 4, 2) := by decide +kernel
theorem dX6_addPart_22 : decode cX6_addPart 22 = .ok (.invokestatic 291, 3) := by decide +kernel
theorem dX6_addPart_25 : decode cX6_addPart 25 = .ok (.aload_n 1, 1) := by decide +kernel
theorem dX6_addPart_26 : decode cX6_addPart 26 = .ok (.aload 5, 2) := by decide +kernel
theorem dX6_addPart_28 : decode cX6_addPart 28 = .ok (.iload_n 3, 1) := by decide +kernel
theorem dX6_addPart_29 : decode cX6_addPart 29 = .ok (.iload 4, 2) := by decide +kernel
theorem dX6_addPart_31 : decode cX6_addPart 31 = .ok (.invokevirtual 299, 3) := by decide +kernel
theorem dX6_addPart_34 : decode cX6_addPart 34 = .ok (.aload_n 1, 1) := by decide +kernel
theorem dX6_addPart_35 : decode cX6_addPart 35 = .ok (.getfield 107, 3) := by decide +kernel
theorem dX6_addPart_38 : decode cX6_addPart 38 = .ok (.ireturn, 1) := by decide +kernel
set_option maxRecDepth 20000 in
theorem ggX6_takeInto_X6_signRowAt : GoodIn wsX6_takeInto wsX6_signRowAt := goodIn_ca (goodIn_r _ [11, 12, 13, 6, 32, 33, 34, 35, 36, 37, 38] (by decide +kernel) (by decide +kernel)) (goodIn_sub (fun _ h => List.mem_cons_of_mem _ (List.mem_append_left _ (List.mem_append_right _ h))) (by decide +kernel))
set_option maxRecDepth 20000 in
theorem gX6_takeInto_X6_signRowAt : GoodIn wsX6_takeInto (wsV RX6 56 RX6 yX6_signRowAt wsX6_signRowAt) := goodIn_app (goodIn_of _ (by decide +kernel)) ggX6_takeInto_X6_signRowAt
set_option maxRecDepth 20000 in
theorem ggX6_takeInto_X3_init : GoodIn wsX6_takeInto wsX3_init := goodIn_r _ [16, 17, 18, 19, 20, 21, 29] (by decide +kernel) (by decide +kernel)
set_option maxRecDepth 20000 in
theorem gX6_takeInto_X3_init : GoodIn wsX6_takeInto (wsX3_init) := ggX6_takeInto_X3_init
set_option maxRecDepth 20000 in
theorem ggX6_takeInto_X4_copyTo : GoodIn wsX6_takeInto wsX4_copyTo := goodIn_ca (goodIn_r _ [26, 27, 28, 30, 31] (by decide +kernel) (by decide +kernel)) (goodIn_sub (fun _ h => List.mem_cons_of_mem _ (List.mem_append_right _ h)) (by decide +kernel))
set_option maxRecDepth 20000 in
theorem gX6_takeInto_X4_copyTo : GoodIn wsX6_takeInto (wsV RX6 303 RX4 yX4_copyTo wsX4_copyTo) := goodIn_app (goodIn_of _ (by decide +kernel)) ggX6_takeInto_X4_copyTo
theorem dX6_takeInto_0 : decode cX6_takeInto 0 = .ok (.aload_n 0, 1) := by decide +kernel
theorem dX6_takeInto_1 : decode cX6_takeInto 1 = .ok (.iload_n 2, 1) := by decide +kernel
theorem dX6_takeInto_2 : decode cX6_takeInto 2 = .ok (.invokevirtual 56, 3) := by decide +kernel
theorem dX6_takeInto_5 : decode cX6_takeInto 5 = .ok (.pop, 1) := by decide +kernel
theorem dX6_takeInto_6 : decode cX6_takeInto 6 = .ok (.new 9, 3) := by decide +kernel
theorem dX6_takeInto_9 : decode cX6_takeInto 9 = .ok (.dup, 1) := by decide +kernel
theorem dX6_takeInto_10 : decode cX6_takeInto 10 = .ok (.aload_n 1, 1) := by decide +kernel
theorem dX6_takeInto_11 : decode cX6_takeInto 11 = .ok (.getfield 107, 3) := by decide +kernel
theorem dX6_takeInto_14 : decode cX6_takeInto 14 = .ok (.invokespecial 15, 3) := by decide +kernel
theorem dX6_takeInto_17 : decode cX6_takeInto 17 = .ok (.astore_n 3, 1) := by decide +kernel
theorem dX6_takeInto_18 : decode cX6_takeInto 18 = .ok (.aload_n 1, 1) := by decide +kernel
theorem dX6_takeInto_19 : decode cX6_takeInto 19 = .ok (.aload_n 3, 1) := by decide +kernel
theorem dX6_takeInto_20 : decode cX6_takeInto 20 = .ok (.getfield 60, 3) := by decide +kernel
theorem dX6_takeInto_23 : decode cX6_takeInto 23 = .ok (.invokevirtual 303, 3) := by decide +kernel
theorem dX6_takeInto_26 : decode cX6_takeInto 26 = .ok (.aload_n 0, 1) := by decide +kernel
theorem dX6_takeInto_27 : decode cX6_takeInto 27 = .ok (.getfield 11, 3) := by decide +kernel
theorem dX6_takeInto_30 : decode cX6_takeInto 30 = .ok (.iload_n 2, 1) := by decide +kernel
theorem dX6_takeInto_31 : decode cX6_takeInto 31 = .ok (.aload_n 3, 1) := by decide +kernel
theorem dX6_takeInto_32 : decode cX6_takeInto 32 = .ok (.aastore, 1) := by decide +kernel
theorem dX6_takeInto_33 : decode cX6_takeInto 33 = .ok (.aload_n 3, 1) := by decide +kernel
theorem dX6_takeInto_34 : decode cX6_takeInto 34 = .ok (.getfield 60, 3) := by decide +kernel
theorem dX6_takeInto_37 : decode cX6_takeInto 37 = .ok (.arraylength, 1) := by decide +kernel
theorem dX6_takeInto_38 : decode cX6_takeInto 38 = .ok (.ireturn, 1) := by decide +kernel
theorem dX6_cut_0 : decode cX6_cut 0 = .ok (.iload_n 0, 1) := by decide +kernel
theorem dX6_cut_1 : decode cX6_cut 1 = .ok (.sipush 255, 3) := by decide +kernel
theorem dX6_cut_4 : decode cX6_cut 4 = .ok (.iand, 1) := by decide +kernel
theorem dX6_cut_5 : decode cX6_cut 5 = .ok (.i2c, 1) := by decide +kernel
theorem dX6_cut_6 : decode cX6_cut 6 = .ok (.ireturn, 1) := by decide +kernel
theorem dJx00060_init_a7421_0 : decode cJx00060_init_a7421 0 = .ok (.aload_n 0, 1) := by decide +kernel
theorem dJx00060_init_a7421_1 : decode cJx00060_init_a7421 1 = .ok (.aload_n 1, 1) := by decide +kernel
theorem dJx00060_init_a7421_2 : decode cJx00060_init_a7421 2 = .ok (.invokespecial 7, 3) := by decide +kernel
theorem dJx00060_init_a7421_5 : decode cJx00060_init_a7421 5 = .ok (.return_, 1) := by decide +kernel
theorem dJ9_max_7cf53_0 : decode cJ9_max_7cf53 0 = .ok (.iload_n 0, 1) := by decide +kernel
theorem dJ9_max_7cf53_1 : decode cJ9_max_7cf53 1 = .ok (.iload_n 1, 1) := by decide +kernel
theorem dJ9_max_7cf53_2 : decode cJ9_max_7cf53 2 = .ok (.if_icmp .lt 7, 3) := by decide +kernel
theorem dJ9_max_7cf53_5 : decode cJ9_max_7cf53 5 = .ok (.iload_n 0, 1) := by decide +kernel
theorem dJ9_max_7cf53_6 : decode cJ9_max_7cf53 6 = .ok (.goto 4, 3) := by decide +kernel
theorem dJ9_max_7cf53_9 : decode cJ9_max_7cf53 9 = .ok (.iload_n 1, 1) := by decide +kernel
theorem dJ9_max_7cf53_10 : decode cJ9_max_7cf53 10 = .ok (.ireturn, 1) := by decide +kernel
theorem dJ9_max_f86c9_0 : decode cJ9_max_f86c9 0 = .ok (.lload_n 0, 1) := by decide +kernel
theorem dJ9_max_f86c9_1 : decode cJ9_max_f86c9 1 = .ok (.lload_n 2, 1) := by decide +kernel
theorem dJ9_max_f86c9_2 : decode cJ9_max_f86c9 2 = .ok (.lcmp, 1) := by decide +kernel
theorem dJ9_max_f86c9_3 : decode cJ9_max_f86c9 3 = .ok (.ifCond .lt 7, 3) := by decide +kernel
theorem dJ9_max_f86c9_6 : decode cJ9_max_f86c9 6 = .ok (.lload_n 0, 1) := by decide +kernel
theorem dJ9_max_f86c9_7 : decode cJ9_max_f86c9 7 = .ok (.goto 4, 3) := by decide +kernel
theorem dJ9_max_f86c9_10 : decode cJ9_max_f86c9 10 = .ok (.lload_n 2, 1) := by decide +kernel
theorem dJ9_max_f86c9_11 : decode cJ9_max_f86c9 11 = .ok (.lreturn, 1) := by decide +kernel
theorem dJ9_min_7cf53_0 : decode cJ9_min_7cf53 0 = .ok (.iload_n 0, 1) := by decide +kernel
theorem dJ9_min_7cf53_1 : decode cJ9_min_7cf53 1 = .ok (.iload_n 1, 1) := by decide +kernel
theorem dJ9_min_7cf53_2 : decode cJ9_min_7cf53 2 = .ok (.if_icmp .gt 7, 3) := by decide +kernel
theorem dJ9_min_7cf53_5 : decode cJ9_min_7cf53 5 = .ok (.iload_n 0, 1) := by decide +kernel
theorem dJ9_min_7cf53_6 : decode cJ9_min_7cf53 6 = .ok (.goto 4, 3) := by decide +kernel
theorem dJ9_min_7cf53_9 : decode cJ9_min_7cf53 9 = .ok (.iload_n 1, 1) := by decide +kernel
theorem dJ9_min_7cf53_10 : decode cJ9_min_7cf53 10 = .ok (.ireturn, 1) := by decide +kernel
theorem dJ9_min_f86c9_0 : decode cJ9_min_f86c9 0 = .ok (.lload_n 0, 1) := by decide +kernel
theorem dJ9_min_f86c9_1 : decode cJ9_min_f86c9 1 = .ok (.lload_n 2, 1) := by decide +kernel
theorem dJ9_min_f86c9_2 : decode cJ9_min_f86c9 2 = .ok (.lcmp, 1) := by decide +kernel
theorem dJ9_min_f86c9_3 : decode cJ9_min_f86c9 3 = .ok (.ifCond .gt 7, 3) := by decide +kernel
theorem dJ9_min_f86c9_6 : decode cJ9_min_f86c9 6 = .ok (.lload_n 0, 1) := by decide +kernel
theorem dJ9_min_f86c9_7 : decode cJ9_min_f86c9 7 = .ok (.goto 4, 3) := by decide +kernel
theorem dJ9_min_f86c9_10 : decode cJ9_min_f86c9 10 = .ok (.lload_n 2, 1) := by decide +kernel
theorem dJ9_min_f86c9_11 : decode cJ9_min_f86c9 11 = .ok (.lreturn, 1) := by decide +kernel
theorem dL_cell_0 : decode cL_cell 0 = .ok (.sipush 12345, 3) := by decide +kernel
theorem dL_cell_3 : decode cL_cell 3 = .ok (.bipush 31, 2) := by decide +kernel
theorem dL_cell_5 : decode cL_cell 5 = .ok (.aload_n 0, 1) := by decide +kernel
theorem dL_cell_6 : decode cL_cell 6 = .ok (.arraylength, 1) := by decide +kernel
theorem dL_cell_7 : decode cL_cell 7 = .ok (.imul, 1) := by decide +kernel
theorem dL_cell_8 : decode cL_cell 8 = .ok (.iadd, 1) := by decide +kernel
theorem dL_cell_9 : decode cL_cell 9 = .ok (.istore_n 2, 1) := by decide +kernel
theorem dL_cell_10 : decode cL_cell 10 = .ok (.aload_n 0, 1) := by decide +kernel
theorem dL_cell_11 : decode cL_cell 11 = .ok (.astore_n 3, 1) := by decide +kernel
theorem dL_cell_12 : decode cL_cell 12 = .ok (.aload_n 3, 1) := by decide +kernel
theorem dL_cell_13 : decode cL_cell 13 = .ok (.arraylength, 1) := by decide +kernel
theorem dL_cell_14 : decode cL_cell 14 = .ok (.istore 4, 2) := by decide +kernel
theorem dL_cell_16 : decode cL_cell 16 = .ok (.iconst 0, 1) := by decide +kernel
theorem dL_cell_17 : decode cL_cell 17 = .ok (.istore 5, 2) := by decide +kernel
theorem dL_cell_19 : decode cL_cell 19 = .ok (.iload 5, 2) := by decide +kernel
theorem dL_cell_21 : decode cL_cell 21 = .ok (.iload 4, 2) := by decide +kernel
theorem dL_cell_23 : decode cL_cell 23 = .ok (.if_icmp .ge 26, 3) := by decide +kernel
theorem dL_cell_26 : decode cL_cell 26 = .ok (.aload_n 3, 1) := by decide +kernel
theorem dL_cell_27 : decode cL_cell 27 = .ok (.iload 5, 2) := by decide +kernel
theorem dL_cell_29 : decode cL_cell 29 = .ok (.iaload, 1) := by decide +kernel
theorem dL_cell_30 : decode cL_cell 30 = .ok (.istore 6, 2) := by decide +kernel
theorem dL_cell_32 : decode cL_cell 32 = .ok (.iload_n 2, 1) := by decide +kernel
theorem dL_cell_33 : decode cL_cell 33 = .ok (.iload 6, 2) := by decide +kernel
theorem dL_cell_35 : decode cL_cell 35 = .ok (.ixor, 1) := by decide +kernel
theorem dL_cell_36 : decode cL_cell 36 = .ok (.ldc 7, 2) := by decide +kernel
theorem dL_cell_38 : decode cL_cell 38 = .ok (.imul, 1) := by decide +kernel
theorem dL_cell_39 : decode cL_cell 39 = .ok (.bipush 7, 2) := by decide +kernel
theorem dL_cell_41 : decode cL_cell 41 = .ok (.iadd, 1) := by decide +kernel
theorem dL_cell_42 : decode cL_cell 42 = .ok (.istore_n 2, 1) := by decide +kernel
theorem dL_cell_43 : decode cL_cell 43 = .ok (.iinc 5 1, 3) := by decide +kernel
theorem dL_cell_46 : decode cL_cell 46 = .ok (.goto (-27), 3) := by decide +kernel
theorem dL_cell_49 : decode cL_cell 49 = .ok (.iload_n 2, 1) := by decide +kernel
theorem dL_cell_50 : decode cL_cell 50 = .ok (.bipush 7, 2) := by decide +kernel
theorem dL_cell_52 : decode cL_cell 52 = .ok (.iushr, 1) := by decide +kernel
theorem dL_cell_53 : decode cL_cell 53 = .ok (.iconst 3, 1) := by decide +kernel
theorem dL_cell_54 : decode cL_cell 54 = .ok (.iand, 1) := by decide +kernel
theorem dL_cell_55 : decode cL_cell 55 = .ok (.ifCond .ne 24, 3) := by decide +kernel
theorem dL_cell_58 : decode cL_cell 58 = .ok (.iload_n 1, 1) := by decide +kernel
theorem dL_cell_59 : decode cL_cell 59 = .ok (.aload_n 0, 1) := by decide +kernel
theorem dL_cell_60 : decode cL_cell 60 = .ok (.arraylength, 1) := by decide +kernel
theorem dL_cell_61 : decode cL_cell 61 = .ok (.if_icmp .ge 9, 3) := by decide +kernel
theorem dL_cell_64 : decode cL_cell 64 = .ok (.aload_n 0, 1) := by decide +kernel
theorem dL_cell_65 : decode cL_cell 65 = .ok (.iload_n 1, 1) := by decide +kernel
theorem dL_cell_66 : decode cL_cell 66 = .ok (.iaload, 1) := by decide +kernel
theorem dL_cell_67 : decode cL_cell 67 = .ok (.goto 11, 3) := by decide +kernel
theorem dL_cell_70 : decode cL_cell 70 = .ok (.sipush 7919, 3) := by decide +kernel
theorem dL_cell_73 : decode cL_cell 73 = .ok (.iload_n 1, 1) := by decide +kernel
theorem dL_cell_74 : decode cL_cell 74 = .ok (.imul, 1) := by decide +kernel
theorem dL_cell_75 : decode cL_cell 75 = .ok (.bipush 12, 2) := by decide +kernel
theorem dL_cell_77 : decode cL_cell 77 = .ok (.iadd, 1) := by decide +kernel
theorem dL_cell_78 : decode cL_cell 78 = .ok (.ireturn, 1) := by decide +kernel
theorem dL_cell_79 : decode cL_cell 79 = .ok (.iload_n 2, 1) := by decide +kernel
theorem dL_cell_80 : decode cL_cell 80 = .ok (.ldc 8, 2) := by decide +kernel
theorem dL_cell_82 : decode cL_cell 82 = .ok (.iload_n 1, 1) := by decide +kernel
theorem dL_cell_83 : decode cL_cell 83 = .ok (.sipush 1009, 3) := by decide +kernel
theorem dL_cell_86 : decode cL_cell 86 = .ok (.iadd, 1) := by decide +kernel
theorem dL_cell_87 : decode cL_cell 87 = .ok (.imul, 1) := by decide +kernel
theorem dL_cell_88 : decode cL_cell 88 = .ok (.ixor, 1) := by decide +kernel
theorem dL_cell_89 : decode cL_cell 89 = .ok (.istore_n 3, 1) := by decide +kernel
theorem dL_cell_90 : decode cL_cell 90 = .ok (.iload_n 3, 1) := by decide +kernel
theorem dL_cell_91 : decode cL_cell 91 = .ok (.iload_n 3, 1) := by decide +kernel
theorem dL_cell_92 : decode cL_cell 92 = .ok (.bipush 13, 2) := by decide +kernel
theorem dL_cell_94 : decode cL_cell 94 = .ok (.iushr, 1) := by decide +kernel
theorem dL_cell_95 : decode cL_cell 95 = .ok (.ixor, 1) := by decide +kernel
theorem dL_cell_96 : decode cL_cell 96 = .ok (.ldc 9, 2) := by decide +kernel
theorem dL_cell_98 : decode cL_cell 98 = .ok (.imul, 1) := by decide +kernel
theorem dL_cell_99 : decode cL_cell 99 = .ok (.istore_n 3, 1) := by decide +kernel
theorem dL_cell_100 : decode cL_cell 100 = .ok (.iload_n 3, 1) := by decide +kernel
theorem dL_cell_101 : decode cL_cell 101 = .ok (.iload_n 3, 1) := by decide +kernel
theorem dL_cell_102 : decode cL_cell 102 = .ok (.bipush 16, 2) := by decide +kernel
theorem dL_cell_104 : decode cL_cell 104 = .ok (.iushr, 1) := by decide +kernel
theorem dL_cell_105 : decode cL_cell 105 = .ok (.ixor, 1) := by decide +kernel
theorem dL_cell_106 : decode cL_cell 106 = .ok (.ireturn, 1) := by decide +kernel
theorem dL_chosen_0 : decode cL_chosen 0 = .ok (.iload_n 0, 1) := by decide +kernel
theorem dL_chosen_1 : decode cL_chosen 1 = .ok (.ldc 10, 2) := by decide +kernel
theorem dL_chosen_3 : decode cL_chosen 3 = .ok (.iand, 1) := by decide +kernel
theorem dL_chosen_4 : decode cL_chosen 4 = .ok (.iload_n 1, 1) := by decide +kernel
theorem dL_chosen_5 : decode cL_chosen 5 = .ok (.irem, 1) := by decide +kernel
theorem dL_chosen_6 : decode cL_chosen 6 = .ok (.ireturn, 1) := by decide +kernel
set_option maxRecDepth 20000 in
theorem ggL_make_X6_make : GoodIn wsL_make wsX6_make := goodIn_ca (goodIn_ca (goodIn_r _ [9, 10, 11, 12, 13, 14, 15, 16, 17, 18, 19, 8, 20, 21, 22, 23, 24, 25, 26, 27, 28, 29, 30, 31, 32, 33, 34, 35, 36, 37, 38] (by decide +kernel) (by decide +kernel)) (goodIn_sub (fun _ h => List.mem_cons_of_mem _ (List.mem_append_left _ (List.mem_append_right _ h))) (by decide +kernel))) (goodIn_sub (fun _ h => List.mem_cons_of_mem _ (List.mem_append_right _ h)) (by decide +kernel))
set_option maxRecDepth 20000 in
theorem gL_make_X6_make : GoodIn wsL_make (wsV RL 11 RX6 yX6_make wsX6_make) := goodIn_app (goodIn_of _ (by decide +kernel)) ggL_make_X6_make
theorem dL_make_0 : decode cL_make 0 = .ok (.aload_n 0, 1) := by decide +kernel
theorem dL_make_1 : decode cL_make 1 = .ok (.iload_n 1, 1) := by decide +kernel
theorem dL_make_2 : decode cL_make 2 = .ok (.iload_n 2, 1) := by decide +kernel
theorem dL_make_3 : decode cL_make 3 = .ok (.invokevirtual 11, 3) := by decide +kernel
theorem dL_make_6 : decode cL_make 6 = .ok (.i2l, 1) := by decide +kernel
theorem dL_make_7 : decode cL_make 7 = .ok (.lreturn, 1) := by decide +kernel
theorem dL_make_8 : decode cL_make 8 = .ok (.astore_n 3, 1) := by decide +kernel
theorem dL_make_9 : decode cL_make 9 = .ok (.ldc2_w 21, 3) := by decide +kernel
theorem dL_make_12 : decode cL_make 12 = .ok (.lreturn, 1) := by decide +kernel
theorem dL_make_13 : decode cL_make 13 = .ok (.astore_n 3, 1) := by decide +kernel
theorem dL_make_14 : decode cL_make 14 = .ok (.ldc2_w 25, 3) := by decide +kernel
theorem dL_make_17 : decode cL_make 17 = .ok (.lreturn, 1) := by decide +kernel
set_option maxRecDepth 20000 in
theorem ggL_put_X6_put : GoodIn wsL_put wsX6_put := goodIn_ca (goodIn_ca (goodIn_r _ [7, 8, 9, 10, 11, 6, 12, 13, 14, 15, 16, 17, 18, 19, 20, 21, 22, 23, 24, 25, 26, 27, 28, 29] (by decide +kernel) (by decide +kernel)) (goodIn_sub (fun _ h => List.mem_cons_of_mem _ (List.mem_append_left _ (List.mem_append_right _ h))) (by decide +kernel))) (goodIn_sub (fun _ h => List.mem_cons_of_mem _ (List.mem_append_right _ h)) (by decide +kernel))
set_option maxRecDepth 20000 in
theorem gL_put_X6_put : GoodIn wsL_put (wsV RL 27 RX6 yX6_put wsX6_put) := goodIn_app (goodIn_of _ (by decide +kernel)) ggL_put_X6_put
theorem dL_put_0 : decode cL_put 0 = .ok (.aload_n 0, 1) := by decide +kernel
theorem dL_put_1 : decode cL_put 1 = .ok (.iload_n 1, 1) := by decide +kernel
theorem dL_put_2 : decode cL_put 2 = .ok (.iload_n 2, 1) := by decide +kernel
theorem dL_put_3 : decode cL_put 3 = .ok (.iload_n 3, 1) := by decide +kernel
theorem dL_put_4 : decode cL_put 4 = .ok (.invokevirtual 27, 3) := by decide +kernel
theorem dL_put_7 : decode cL_put 7 = .ok (.i2l, 1) := by decide +kernel
theorem dL_put_8 : decode cL_put 8 = .ok (.lreturn, 1) := by decide +kernel
theorem dL_put_9 : decode cL_put 9 = .ok (.astore 4, 2) := by decide +kernel
theorem dL_put_11 : decode cL_put 11 = .ok (.ldc2_w 21, 3) := by decide +kernel
theorem dL_put_14 : decode cL_put 14 = .ok (.lreturn, 1) := by decide +kernel
set_option maxRecDepth 20000 in
theorem ggL_get_X6_get : GoodIn wsL_get wsX6_get := goodIn_ca (goodIn_ca (goodIn_r _ [7, 8, 9, 10, 11, 6, 12, 13, 14, 15, 16, 17, 18, 19, 20, 21, 22, 23, 24, 25, 26] (by decide +kernel) (by decide +kernel)) (goodIn_sub (fun _ h => List.mem_cons_of_mem _ (List.mem_append_left _ (List.mem_append_right _ h))) (by decide +kernel))) (goodIn_sub (fun _ h => List.mem_cons_of_mem _ (List.mem_append_right _ h)) (by decide +kernel))
set_option maxRecDepth 20000 in
theorem gL_get_X6_get : GoodIn wsL_get (wsV RL 31 RX6 yX6_get wsX6_get) := goodIn_app (goodIn_of _ (by decide +kernel)) ggL_get_X6_get
theorem dL_get_0 : decode cL_get 0 = .ok (.aload_n 0, 1) := by decide +kernel
theorem dL_get_1 : decode cL_get 1 = .ok (.iload_n 1, 1) := by decide +kernel
theorem dL_get_2 : decode cL_get 2 = .ok (.iload_n 2, 1) := by decide +kernel
theorem dL_get_3 : decode cL_get 3 = .ok (.invokevirtual 31, 3) := by decide +kernel
theorem dL_get_6 : decode cL_get 6 = .ok (.i2l, 1) := by decide +kernel
theorem dL_get_7 : decode cL_get 7 = .ok (.lreturn, 1) := by decide +kernel
theorem dL_get_8 : decode cL_get 8 = .ok (.astore_n 3, 1) := by decide +kernel
theorem dL_get_9 : decode cL_get 9 = .ok (.ldc2_w 21, 3) := by decide +kernel
theorem dL_get_12 : decode cL_get 12 = .ok (.lreturn, 1) := by decide +kernel
set_option maxRecDepth 20000 in
theorem ggL_length_X6_length : GoodIn wsL_length wsX6_length := goodIn_ca (goodIn_r _ [7, 8, 9, 10, 11, 6, 12, 13, 14, 15, 16, 17, 18, 19, 20, 21, 22, 23] (by decide +kernel) (by decide +kernel)) (goodIn_sub (fun _ h => List.mem_cons_of_mem _ (List.mem_append_right _ h)) (by decide +kernel))
set_option maxRecDepth 20000 in
theorem gL_length_X6_length : GoodIn wsL_length (wsV RL 35 RX6 yX6_length wsX6_length) := goodIn_app (goodIn_of _ (by decide +kernel)) ggL_length_X6_length
theorem dL_length_0 : decode cL_length 0 = .ok (.aload_n 0, 1) := by decide +kernel
theorem dL_length_1 : decode cL_length 1 = .ok (.iload_n 1, 1) := by decide +kernel
theorem dL_length_2 : decode cL_length 2 = .ok (.invokevirtual 35, 3) := by decide +kernel
theorem dL_length_5 : decode cL_length 5 = .ok (.i2l, 1) := by decide +kernel
theorem dL_length_6 : decode cL_length 6 = .ok (.lreturn, 1) := by decide +kernel
theorem dL_length_7 : decode cL_length 7 = .ok (.astore_n 2, 1) := by decide +kernel
theorem dL_length_8 : decode cL_length 8 = .ok (.ldc2_w 21, 3) := by decide +kernel
theorem dL_length_11 : decode cL_length 11 = .ok (.lreturn, 1) := by decide +kernel
set_option maxRecDepth 20000 in
theorem ggL_begin_X6_begin : GoodIn wsL_begin wsX6_begin := goodIn_ca (goodIn_r _ [7, 8, 9, 10, 6, 11, 12, 13, 14, 15, 16, 17, 18, 19, 20, 21, 22, 23, 24, 25, 26, 27, 28, 29] (by decide +kernel) (by decide +kernel)) (goodIn_sub (fun _ h => List.mem_cons_of_mem _ (List.mem_append_right _ h)) (by decide +kernel))
set_option maxRecDepth 20000 in
theorem gL_begin_X6_begin : GoodIn wsL_begin (wsV RL 39 RX6 yX6_begin wsX6_begin) := goodIn_app (goodIn_of _ (by decide +kernel)) ggL_begin_X6_begin
theorem dL_begin_0 : decode cL_begin 0 = .ok (.aload_n 0, 1) := by decide +kernel
theorem dL_begin_1 : decode cL_begin 1 = .ok (.iload_n 1, 1) := by decide +kernel
theorem dL_begin_2 : decode cL_begin 2 = .ok (.invokevirtual 39, 3) := by decide +kernel
theorem dL_begin_5 : decode cL_begin 5 = .ok (.i2l, 1) := by decide +kernel
theorem dL_begin_6 : decode cL_begin 6 = .ok (.lreturn, 1) := by decide +kernel
theorem dL_begin_7 : decode cL_begin 7 = .ok (.astore_n 2, 1) := by decide +kernel
theorem dL_begin_8 : decode cL_begin 8 = .ok (.ldc2_w 21, 3) := by decide +kernel
theorem dL_begin_11 : decode cL_begin 11 = .ok (.lreturn, 1) := by decide +kernel
set_option maxRecDepth 20000 in
theorem ggL_writeText_X6_writeText : GoodIn wsL_writeText wsX6_writeText := goodIn_ca (goodIn_ca (goodIn_ca (goodIn_r _ [9, 10, 11, 12, 8, 13, 14, 15, 16, 17, 18, 19, 20, 21, 22, 23, 24, 25, 26, 27, 28, 29, 30, 31, 32, 33, 34, 35, 36, 37, 38, 39, 40, 41, 42, 43, 44, 45, 46, 47, 48, 49, 50, 51, 52] (by decide +kernel) (by decide +kernel)) (goodIn_sub (fun _ h => List.mem_cons_of_mem _ (List.mem_append_left _ (List.mem_append_left _ (List.mem_append_right _ h)))) (by decide +kernel))) (goodIn_sub (fun _ h => List.mem_cons_of_mem _ (List.mem_append_left _ (List.mem_append_right _ h))) (by decide +kernel))) (goodIn_sub (fun _ h => List.mem_cons_of_mem _ (List.mem_append_right _ h)) (by decide +kernel))
set_option maxRecDepth 20000 in
theorem gL_writeText_X6_writeText : GoodIn wsL_writeText (wsV RL 42 RX6 yX6_writeText wsX6_writeText) := goodIn_app (goodIn_of _ (by decide +kernel)) ggL_writeText_X6_writeText
theorem dL_writeText_0 : decode cL_writeText 0 = .ok (.aload_n 0, 1) := by decide +kernel
theorem dL_writeText_1 : decode cL_writeText 1 = .ok (.iload_n 1, 1) := by decide +kernel
theorem dL_writeText_2 : decode cL_writeText 2 = .ok (.iload_n 2, 1) := by decide +kernel
theorem dL_writeText_3 : decode cL_writeText 3 = .ok (.iload_n 3, 1) := by decide +kernel
theorem dL_writeText_4 : decode cL_writeText 4 = .ok (.iload 4, 2) := by decide +kernel
theorem dL_writeText_6 : decode cL_writeText 6 = .ok (.invokevirtual 42, 3) := by decide +kernel
theorem dL_writeText_9 : decode cL_writeText 9 = .ok (.i2l, 1) := by decide +kernel
theorem dL_writeText_10 : decode cL_writeText 10 = .ok (.lreturn, 1) := by decide +kernel
theorem dL_writeText_11 : decode cL_writeText 11 = .ok (.astore 5, 2) := by decide +kernel
theorem dL_writeText_13 : decode cL_writeText 13 = .ok (.ldc2_w 21, 3) := by decide +kernel
theorem dL_writeText_16 : decode cL_writeText 16 = .ok (.lreturn, 1) := by decide +kernel
theorem dL_writeText_17 : decode cL_writeText 17 = .ok (.astore 5, 2) := by decide +kernel
theorem dL_writeText_19 : decode cL_writeText 19 = .ok (.ldc2_w 25, 3) := by decide +kernel
theorem dL_writeText_22 : decode cL_writeText 22 = .ok (.lreturn, 1) := by decide +kernel
set_option maxRecDepth 20000 in
theorem ggL_writeSigns_X6_writeSigns : GoodIn wsL_writeSigns wsX6_writeSigns := goodIn_ca (goodIn_ca (goodIn_ca (goodIn_r _ [9, 10, 11, 12, 8, 13, 14, 15, 16, 17, 18, 19, 20, 21, 22, 23, 24, 25, 26, 27, 28, 29, 30, 31, 32, 33, 34, 35, 36, 37, 38, 39, 40, 41, 42, 43, 44, 45, 46, 47, 48, 49, 50, 51, 52] (by decide +kernel) (by decide +kernel)) (goodIn_sub (fun _ h => List.mem_cons_of_mem _ (List.mem_append_left _ (List.mem_append_left _ (List.mem_append_right _ h)))) (by decide +kernel))) (goodIn_sub (fun _ h => List.mem_cons_of_mem _ (List.mem_append_left _ (List.mem_append_right _ h))) (by decide +kernel))) (goodIn_sub (fun _ h => List.mem_cons_of_mem _ (List.mem_append_right _ h)) (by decide +kernel))
set_option maxRecDepth 20000 in
theorem gL_writeSigns_X6_writeSigns : GoodIn wsL_writeSigns (wsV RL 48 RX6 yX6_writeSigns wsX6_writeSigns) := goodIn_app (goodIn_of _ (by decide +kernel)) ggL_writeSigns_X6_writeSigns
theorem dL_writeSigns_0 : decode cL_writeSigns 0 = .ok (.aload_n 0, 1) := by decide +kernel
theorem dL_writeSigns_1 : decode cL_writeSigns 1 = .ok (.iload_n 1, 1) := by decide +kernel
theorem dL_writeSigns_2 : decode cL_writeSigns 2 = .ok (.iload_n 2, 1) := by decide +kernel
theorem dL_writeSigns_3 : decode cL_writeSigns 3 = .ok (.iload_n 3, 1) := by decide +kernel
theorem dL_writeSigns_4 : decode cL_writeSigns 4 = .ok (.iload 4, 2) := by decide +kernel
theorem dL_writeSigns_6 : decode cL_writeSigns 6 = .ok (.invokevirtual 48, 3) := by decide +kernel
theorem dL_writeSigns_9 : decode cL_writeSigns 9 = .ok (.i2l, 1) := by decide +kernel
theorem dL_writeSigns_10 : decode cL_writeSigns 10 = .ok (.lreturn, 1) := by decide +kernel
theorem dL_writeSigns_11 : decode cL_writeSigns 11 = .ok (.astore 5, 2) := by decide +kernel
theorem dL_writeSigns_13 : decode cL_writeSigns 13 = .ok (.ldc2_w 21, 3) := by decide +kernel
theorem dL_writeSigns_16 : decode cL_writeSigns 16 = .ok (.lreturn, 1) := by decide +kernel
theorem dL_writeSigns_17 : decode cL_writeSigns 17 = .ok (.astore 5, 2) := by decide +kernel
theorem dL_writeSigns_19 : decode cL_writeSigns 19 = .ok (.ldc2_w 25, 3) := by decide +kernel
theorem dL_writeSigns_22 : decode cL_writeSigns 22 = .ok (.lreturn, 1) := by decide +kernel
set_option maxRecDepth 20000 in
theorem ggL_take_X6_take : GoodIn wsL_take wsX6_take := goodIn_ca (goodIn_ca (goodIn_r _ [7, 8, 9, 10, 6, 11, 12, 13, 14, 15, 16, 17, 18, 19, 20, 21, 22, 23, 24, 25, 26, 27, 28, 29, 30, 31, 32, 33, 34, 35, 36, 37, 38, 39, 40, 41, 42, 43, 44, 45, 46, 47, 48, 49, 50, 51, 52, 53] (by decide +kernel) (by decide +kernel)) (goodIn_sub (fun _ h => List.mem_cons_of_mem _ (List.mem_append_left _ (List.mem_append_right _ h))) (by decide +kernel))) (goodIn_sub (fun _ h => List.mem_cons_of_mem _ (List.mem_append_right _ h)) (by decide +kernel))
set_option maxRecDepth 20000 in
theorem gL_take_X6_take : GoodIn wsL_take (wsV RL 54 RX6 yX6_take wsX6_take) := goodIn_app (goodIn_of _ (by decide +kernel)) ggL_take_X6_take
theorem dL_take_0 : decode cL_take 0 = .ok (.aload_n 0, 1) := by decide +kernel
theorem dL_take_1 : decode cL_take 1 = .ok (.iload_n 1, 1) := by decide +kernel
theorem dL_take_2 : decode cL_take 2 = .ok (.iload_n 2, 1) := by decide +kernel
theorem dL_take_3 : decode cL_take 3 = .ok (.invokevirtual 54, 3) := by decide +kernel
theorem dL_take_6 : decode cL_take 6 = .ok (.i2l, 1) := by decide +kernel
theorem dL_take_7 : decode cL_take 7 = .ok (.lreturn, 1) := by decide +kernel
theorem dL_take_8 : decode cL_take 8 = .ok (.astore_n 3, 1) := by decide +kernel
theorem dL_take_9 : decode cL_take 9 = .ok (.ldc2_w 21, 3) := by decide +kernel
theorem dL_take_12 : decode cL_take 12 = .ok (.lreturn, 1) := by decide +kernel
set_option maxRecDepth 20000 in
theorem ggL_empty_X6_empty : GoodIn wsL_empty wsX6_empty := goodIn_ca (goodIn_r _ [7, 8, 9, 10, 6, 11, 12, 13, 14, 15, 16, 17, 18, 19, 20, 21, 22, 23, 24, 25, 26, 27, 28, 29] (by decide +kernel) (by decide +kernel)) (goodIn_sub (fun _ h => List.mem_cons_of_mem _ (List.mem_append_right _ h)) (by decide +kernel))
set_option maxRecDepth 20000 in
theorem gL_empty_X6_empty : GoodIn wsL_empty (wsV RL 57 RX6 yX6_empty wsX6_empty) := goodIn_app (goodIn_of _ (by decide +kernel)) ggL_empty_X6_empty
theorem dL_empty_0 : decode cL_empty 0 = .ok (.aload_n 0, 1) := by decide +kernel
theorem dL_empty_1 : decode cL_empty 1 = .ok (.iload_n 1, 1) := by decide +kernel
theorem dL_empty_2 : decode cL_empty 2 = .ok (.invokevirtual 57, 3) := by decide +kernel
theorem dL_empty_5 : decode cL_empty 5 = .ok (.i2l, 1) := by decide +kernel
theorem dL_empty_6 : decode cL_empty 6 = .ok (.lreturn, 1) := by decide +kernel
theorem dL_empty_7 : decode cL_empty 7 = .ok (.astore_n 2, 1) := by decide +kernel
theorem dL_empty_8 : decode cL_empty 8 = .ok (.ldc2_w 21, 3) := by decide +kernel
theorem dL_empty_11 : decode cL_empty 11 = .ok (.lreturn, 1) := by decide +kernel
set_option maxRecDepth 20000 in
theorem ggL_arrayText_X6_arrayText : GoodIn wsL_arrayText wsX6_arrayText := goodIn_ca (goodIn_ca (goodIn_ca (goodIn_r _ [9, 10, 11, 12, 8, 13, 14, 15, 16, 17, 18, 19, 20, 21, 22, 23, 24, 25, 26, 27, 28, 29, 30, 31, 32, 33, 34, 35, 36, 37, 38, 39, 40, 41, 42, 43, 44, 45, 46, 47, 48, 49, 50, 51, 52] (by decide +kernel) (by decide +kernel)) (goodIn_sub (fun _ h => List.mem_cons_of_mem _ (List.mem_append_left _ (List.mem_append_left _ (List.mem_append_right _ h)))) (by decide +kernel))) (goodIn_sub (fun _ h => List.mem_cons_of_mem _ (List.mem_append_left _ (List.mem_append_right _ h))) (by decide +kernel))) (goodIn_sub (fun _ h => List.mem_cons_of_mem _ (List.mem_append_right _ h)) (by decide +kernel))
set_option maxRecDepth 20000 in
theorem gL_arrayText_X6_arrayText : GoodIn wsL_arrayText (wsV RL 60 RX6 yX6_arrayText wsX6_arrayText) := goodIn_app (goodIn_of _ (by decide +kernel)) ggL_arrayText_X6_arrayText
theorem dL_arrayText_0 : decode cL_arrayText 0 = .ok (.aload_n 0, 1) := by decide +kernel
theorem dL_arrayText_1 : decode cL_arrayText 1 = .ok (.iload_n 1, 1) := by decide +kernel
theorem dL_arrayText_2 : decode cL_arrayText 2 = .ok (.iload_n 2, 1) := by decide +kernel
theorem dL_arrayText_3 : decode cL_arrayText 3 = .ok (.iload_n 3, 1) := by decide +kernel
theorem dL_arrayText_4 : decode cL_arrayText 4 = .ok (.iload 4, 2) := by decide +kernel
theorem dL_arrayText_6 : decode cL_arrayText 6 = .ok (.invokevirtual 60, 3) := by decide +kernel
theorem dL_arrayText_9 : decode cL_arrayText 9 = .ok (.i2l, 1) := by decide +kernel
theorem dL_arrayText_10 : decode cL_arrayText 10 = .ok (.lreturn, 1) := by decide +kernel
theorem dL_arrayText_11 : decode cL_arrayText 11 = .ok (.astore 5, 2) := by decide +kernel
theorem dL_arrayText_13 : decode cL_arrayText 13 = .ok (.ldc2_w 21, 3) := by decide +kernel
theorem dL_arrayText_16 : decode cL_arrayText 16 = .ok (.lreturn, 1) := by decide +kernel
theorem dL_arrayText_17 : decode cL_arrayText 17 = .ok (.astore 5, 2) := by decide +kernel
theorem dL_arrayText_19 : decode cL_arrayText 19 = .ok (.ldc2_w 25, 3) := by decide +kernel
theorem dL_arrayText_22 : decode cL_arrayText 22 = .ok (.lreturn, 1) := by decide +kernel
set_option maxRecDepth 20000 in
theorem ggL_arraySigns_X6_arraySigns : GoodIn wsL_arraySigns wsX6_arraySigns := goodIn_ca (goodIn_ca (goodIn_ca (goodIn_r _ [9, 10, 11, 12, 8, 13, 14, 15, 16, 17, 18, 19, 20, 21, 22, 23, 24, 25, 26, 27, 28, 29, 30, 31, 32, 33, 34, 35, 36, 37, 38, 39, 40, 41, 42, 43, 44, 45, 46, 47, 48, 49, 50, 51, 52] (by decide +kernel) (by decide +kernel)) (goodIn_sub (fun _ h => List.mem_cons_of_mem _ (List.mem_append_left _ (List.mem_append_left _ (List.mem_append_right _ h)))) (by decide +kernel))) (goodIn_sub (fun _ h => List.mem_cons_of_mem _ (List.mem_append_left _ (List.mem_append_right _ h))) (by decide +kernel))) (goodIn_sub (fun _ h => List.mem_cons_of_mem _ (List.mem_append_right _ h)) (by decide +kernel))
set_option maxRecDepth 20000 in
theorem gL_arraySigns_X6_arraySigns : GoodIn wsL_arraySigns (wsV RL 63 RX6 yX6_arraySigns wsX6_arraySigns) := goodIn_app (goodIn_of _ (by decide +kernel)) ggL_arraySigns_X6_arraySigns
theorem dL_arraySigns_0 : decode cL_arraySigns 0 = .ok (.aload_n 0, 1) := by decide +kernel
theorem dL_arraySigns_1 : decode cL_arraySigns 1 = .ok (.iload_n 1, 1) := by decide +kernel
theorem dL_arraySigns_2 : decode cL_arraySigns 2 = .ok (.iload_n 2, 1) := by decide +kernel
theorem dL_arraySigns_3 : decode cL_arraySigns 3 = .ok (.iload_n 3, 1) := by decide +kernel
theorem dL_arraySigns_4 : decode cL_arraySigns 4 = .ok (.iload 4, 2) := by decide +kernel
theorem dL_arraySigns_6 : decode cL_arraySigns 6 = .ok (.invokevirtual 63, 3) := by decide +kernel
theorem dL_arraySigns_9 : decode cL_arraySigns 9 = .ok (.i2l, 1) := by decide +kernel
theorem dL_arraySigns_10 : decode cL_arraySigns 10 = .ok (.lreturn, 1) := by decide +kernel
theorem dL_arraySigns_11 : decode cL_arraySigns 11 = .ok (.astore 5, 2) := by decide +kernel
theorem dL_arraySigns_13 : decode cL_arraySigns 13 = .ok (.ldc2_w 21, 3) := by decide +kernel
theorem dL_arraySigns_16 : decode cL_arraySigns 16 = .ok (.lreturn, 1) := by decide +kernel
theorem dL_arraySigns_17 : decode cL_arraySigns 17 = .ok (.astore 5, 2) := by decide +kernel
theorem dL_arraySigns_19 : decode cL_arraySigns 19 = .ok (.ldc2_w 25, 3) := by decide +kernel
theorem dL_arraySigns_22 : decode cL_arraySigns 22 = .ok (.lreturn, 1) := by decide +kernel
set_option maxRecDepth 20000 in
theorem ggL_arrayTake_X6_arrayTake : GoodIn wsL_arrayTake wsX6_arrayTake := goodIn_ca (goodIn_ca (goodIn_r _ [7, 8, 9, 10, 6, 11, 12, 13, 14, 15, 16, 17, 18, 19, 20, 21, 22, 23, 24, 25, 26, 27, 28, 29, 30, 31, 32, 33, 34, 35, 36, 37, 38, 39, 40, 41, 42, 43, 44, 45, 46, 47, 48, 49, 50, 51, 52, 53] (by decide +kernel) (by decide +kernel)) (goodIn_sub (fun _ h => List.mem_cons_of_mem _ (List.mem_append_left _ (List.mem_append_right _ h))) (by decide +kernel))) (goodIn_sub (fun _ h => List.mem_cons_of_mem _ (List.mem_append_right _ h)) (by decide +kernel))
set_option maxRecDepth 20000 in
theorem gL_arrayTake_X6_arrayTake : GoodIn wsL_arrayTake (wsV RL 66 RX6 yX6_arrayTake wsX6_arrayTake) := goodIn_app (goodIn_of _ (by decide +kernel)) ggL_arrayTake_X6_arrayTake
theorem dL_arrayTake_0 : decode cL_arrayTake 0 = .ok (.aload_n 0, 1) := by decide +kernel
theorem dL_arrayTake_1 : decode cL_arrayTake 1 = .ok (.iload_n 1, 1) := by decide +kernel
theorem dL_arrayTake_2 : decode cL_arrayTake 2 = .ok (.iload_n 2, 1) := by decide +kernel
theorem dL_arrayTake_3 : decode cL_arrayTake 3 = .ok (.invokevirtual 66, 3) := by decide +kernel
theorem dL_arrayTake_6 : decode cL_arrayTake 6 = .ok (.i2l, 1) := by decide +kernel
theorem dL_arrayTake_7 : decode cL_arrayTake 7 = .ok (.lreturn, 1) := by decide +kernel
theorem dL_arrayTake_8 : decode cL_arrayTake 8 = .ok (.astore_n 3, 1) := by decide +kernel
theorem dL_arrayTake_9 : decode cL_arrayTake 9 = .ok (.ldc2_w 21, 3) := by decide +kernel
theorem dL_arrayTake_12 : decode cL_arrayTake 12 = .ok (.lreturn, 1) := by decide +kernel
set_option maxRecDepth 20000 in
theorem ggL_areLike_X6_areLike : GoodIn wsL_areLike wsX6_areLike := goodIn_ca (goodIn_ca (goodIn_r _ [7, 8, 9, 10, 6, 11, 12, 13, 14, 15, 16, 17, 18, 19, 20, 21, 22, 23, 24, 25, 26, 27, 28, 29, 30, 31, 32, 33, 34, 35] (by decide +kernel) (by decide +kernel)) (goodIn_sub (fun _ h => List.mem_cons_of_mem _ (List.mem_append_left _ (List.mem_append_right _ h))) (by decide +kernel))) (goodIn_sub (fun _ h => List.mem_cons_of_mem _ (List.mem_append_right _ h)) (by decide +kernel))
set_option maxRecDepth 20000 in
theorem gL_areLike_X6_areLike : GoodIn wsL_areLike (wsV RL 69 RX6 yX6_areLike wsX6_areLike) := goodIn_app (goodIn_of _ (by decide +kernel)) ggL_areLike_X6_areLike
theorem dL_areLike_0 : decode cL_areLike 0 = .ok (.aload_n 0, 1) := by decide +kernel
theorem dL_areLike_1 : decode cL_areLike 1 = .ok (.iload_n 1, 1) := by decide +kernel
theorem dL_areLike_2 : decode cL_areLike 2 = .ok (.iload_n 2, 1) := by decide +kernel
theorem dL_areLike_3 : decode cL_areLike 3 = .ok (.invokevirtual 69, 3) := by decide +kernel
theorem dL_areLike_6 : decode cL_areLike 6 = .ok (.ifCond .eq 7, 3) := by decide +kernel
theorem dL_areLike_9 : decode cL_areLike 9 = .ok (.lconst 1, 1) := by decide +kernel
theorem dL_areLike_10 : decode cL_areLike 10 = .ok (.goto 4, 3) := by decide +kernel
theorem dL_areLike_13 : decode cL_areLike 13 = .ok (.lconst 0, 1) := by decide +kernel
theorem dL_areLike_14 : decode cL_areLike 14 = .ok (.lreturn, 1) := by decide +kernel
theorem dL_areLike_15 : decode cL_areLike 15 = .ok (.astore_n 3, 1) := by decide +kernel
theorem dL_areLike_16 : decode cL_areLike 16 = .ok (.ldc2_w 21, 3) := by decide +kernel
theorem dL_areLike_19 : decode cL_areLike 19 = .ok (.lreturn, 1) := by decide +kernel
set_option maxRecDepth 20000 in
theorem ggL_open_X6_open : GoodIn wsL_open wsX6_open := goodIn_ca (goodIn_ca (goodIn_r _ [9, 10, 11, 12, 13, 8, 14, 15, 16, 17, 18, 19, 20, 21, 22, 23, 24, 25, 26, 27, 28, 29, 30, 31, 32, 33, 34, 35, 36, 37, 38, 39, 40, 41, 42, 43, 44, 45, 46, 47, 48, 49, 50, 51, 52, 53, 54, 55, 56, 57, 58, 59, 60, 61, 62, 63, 64, 65] (by decide +kernel) (by decide +kernel)) (goodIn_sub (fun _ h => List.mem_cons_of_mem _ (List.mem_append_left _ (List.mem_append_right _ h))) (by decide +kernel))) (goodIn_sub (fun _ h => List.mem_cons_of_mem _ (List.mem_append_right _ h)) (by decide +kernel))
set_option maxRecDepth 20000 in
theorem gL_open_X6_open : GoodIn wsL_open (wsV RL 73 RX6 yX6_open wsX6_open) := goodIn_app (goodIn_of _ (by decide +kernel)) ggL_open_X6_open
theorem dL_open_0 : decode cL_open 0 = .ok (.aload_n 0, 1) := by decide +kernel
theorem dL_open_1 : decode cL_open 1 = .ok (.iload_n 1, 1) := by decide +kernel
theorem dL_open_2 : decode cL_open 2 = .ok (.iload_n 2, 1) := by decide +kernel
theorem dL_open_3 : decode cL_open 3 = .ok (.iload_n 3, 1) := by decide +kernel
theorem dL_open_4 : decode cL_open 4 = .ok (.iload 4, 2) := by decide +kernel
theorem dL_open_6 : decode cL_open 6 = .ok (.invokevirtual 73, 3) := by decide +kernel
theorem dL_open_9 : decode cL_open 9 = .ok (.i2l, 1) := by decide +kernel
theorem dL_open_10 : decode cL_open 10 = .ok (.lreturn, 1) := by decide +kernel
theorem dL_open_11 : decode cL_open 11 = .ok (.astore 5, 2) := by decide +kernel
theorem dL_open_13 : decode cL_open 13 = .ok (.ldc2_w 21, 3) := by decide +kernel
theorem dL_open_16 : decode cL_open 16 = .ok (.lreturn, 1) := by decide +kernel
theorem dL_open_17 : decode cL_open 17 = .ok (.astore 5, 2) := by decide +kernel
theorem dL_open_19 : decode cL_open 19 = .ok (.ldc2_w 25, 3) := by decide +kernel
theorem dL_open_22 : decode cL_open 22 = .ok (.lreturn, 1) := by decide +kernel
set_option maxRecDepth 20000 in
theorem ggL_shut_X6_shut : GoodIn wsL_shut wsX6_shut := goodIn_ca (goodIn_ca (goodIn_r _ [9, 10, 11, 12, 13, 14, 15, 16, 8, 17, 18, 19, 20, 21, 22, 23, 24, 25, 26, 27, 28, 29, 30, 31, 32, 33, 34, 35, 36, 37, 38, 39, 40] (by decide +kernel) (by decide +kernel)) (goodIn_sub (fun _ h => List.mem_cons_of_mem _ (List.mem_append_left _ (List.mem_append_right _ h))) (by decide +kernel))) (goodIn_sub (fun _ h => List.mem_cons_of_mem _ (List.mem_append_right _ h)) (by decide +kernel))
set_option maxRecDepth 20000 in
theorem gL_shut_X6_shut : GoodIn wsL_shut (wsV RL 76 RX6 yX6_shut wsX6_shut) := goodIn_app (goodIn_of _ (by decide +kernel)) ggL_shut_X6_shut
theorem dL_shut_0 : decode cL_shut 0 = .ok (.aload_n 0, 1) := by decide +kernel
theorem dL_shut_1 : decode cL_shut 1 = .ok (.iload_n 1, 1) := by decide +kernel
theorem dL_shut_2 : decode cL_shut 2 = .ok (.invokevirtual 76, 3) := by decide +kernel
theorem dL_shut_5 : decode cL_shut 5 = .ok (.i2l, 1) := by decide +kernel
theorem dL_shut_6 : decode cL_shut 6 = .ok (.lreturn, 1) := by decide +kernel
theorem dL_shut_7 : decode cL_shut 7 = .ok (.astore_n 2, 1) := by decide +kernel
theorem dL_shut_8 : decode cL_shut 8 = .ok (.ldc2_w 21, 3) := by decide +kernel
theorem dL_shut_11 : decode cL_shut 11 = .ok (.lreturn, 1) := by decide +kernel
theorem dL_shut_12 : decode cL_shut 12 = .ok (.astore_n 2, 1) := by decide +kernel
theorem dL_shut_13 : decode cL_shut 13 = .ok (.ldc2_w 25, 3) := by decide +kernel
theorem dL_shut_16 : decode cL_shut 16 = .ok (.lreturn, 1) := by decide +kernel
set_option maxRecDepth 20000 in
theorem ggL_read_X6_read : GoodIn wsL_read wsX6_read := goodIn_ca (goodIn_ca (goodIn_ca (goodIn_r _ [9, 10, 11, 12, 8, 13, 14, 15, 16, 17, 18, 19, 20, 21, 22, 23, 24, 25, 26, 27, 28, 29, 30, 31, 32, 33, 34, 35, 36, 37, 38, 39, 40, 41, 42, 43, 44, 45, 46, 47] (by decide +kernel) (by decide +kernel)) (goodIn_sub (fun _ h => List.mem_cons_of_mem _ (List.mem_append_left _ (List.mem_append_left _ (List.mem_append_right _ h)))) (by decide +kernel))) (goodIn_sub (fun _ h => List.mem_cons_of_mem _ (List.mem_append_left _ (List.mem_append_right _ h))) (by decide +kernel))) (goodIn_sub (fun _ h => List.mem_cons_of_mem _ (List.mem_append_right _ h)) (by decide +kernel))
set_option maxRecDepth 20000 in
theorem gL_read_X6_read : GoodIn wsL_read (wsV RL 81 RX6 yX6_read wsX6_read) := goodIn_app (goodIn_of _ (by decide +kernel)) ggL_read_X6_read
theorem dL_read_0 : decode cL_read 0 = .ok (.aload_n 0, 1) := by decide +kernel
theorem dL_read_1 : decode cL_read 1 = .ok (.iload_n 1, 1) := by decide +kernel
theorem dL_read_2 : decode cL_read 2 = .ok (.invokevirtual 81, 3) := by decide +kernel
theorem dL_read_5 : decode cL_read 5 = .ok (.i2l, 1) := by decide +kernel
theorem dL_read_6 : decode cL_read 6 = .ok (.lreturn, 1) := by decide +kernel
theorem dL_read_7 : decode cL_read 7 = .ok (.astore_n 2, 1) := by decide +kernel
theorem dL_read_8 : decode cL_read 8 = .ok (.ldc2_w 21, 3) := by decide +kernel
theorem dL_read_11 : decode cL_read 11 = .ok (.lreturn, 1) := by decide +kernel
theorem dL_read_12 : decode cL_read 12 = .ok (.astore_n 2, 1) := by decide +kernel
theorem dL_read_13 : decode cL_read 13 = .ok (.ldc2_w 25, 3) := by decide +kernel
theorem dL_read_16 : decode cL_read 16 = .ok (.lreturn, 1) := by decide +kernel
set_option maxRecDepth 20000 in
theorem ggL_readPart_X6_readPart : GoodIn wsL_readPart wsX6_readPart := goodIn_ca (goodIn_ca (goodIn_ca (goodIn_ca (goodIn_ca (goodIn_r _ [13, 14, 15, 16, 17, 18, 19, 20, 12, 21, 22, 23, 24, 25, 26, 27, 28, 29, 30, 31, 32, 33, 34, 35, 36, 37, 38, 39, 40, 41, 42, 43, 44, 45, 46, 47, 48, 49, 50, 51, 52, 53, 54, 55, 56, 57, 58, 59, 60, 61, 62, 63, 64, 65, 66, 67, 68, 69, 70, 71, 72] (by decide +kernel) (by decide +kernel)) (goodIn_sub (fun _ h => List.mem_cons_of_mem _ (List.mem_append_left _ (List.mem_append_left _ (List.mem_append_left _ (List.mem_append_left _ (List.mem_append_right _ h)))))) (by decide +kernel))) (goodIn_sub (fun _ h => List.mem_cons_of_mem _ (List.mem_append_left _ (List.mem_append_left _ (List.mem_append_left _ (List.mem_append_right _ h))))) (by decide +kernel))) (goodIn_sub (fun _ h => List.mem_cons_of_mem _ (List.mem_append_left _ (List.mem_append_left _ (List.mem_append_right _ h)))) (by decide +kernel))) (goodIn_sub (fun _ h => List.mem_cons_of_mem _ (List.mem_append_left _ (List.mem_append_right _ h))) (by decide +kernel))) (goodIn_sub (fun _ h => List.mem_cons_of_mem _ (List.mem_append_right _ h)) (by decide +kernel))
set_option maxRecDepth 20000 in
theorem gL_readPart_X6_readPart : GoodIn wsL_readPart (wsV RL 84 RX6 yX6_readPart wsX6_readPart) := goodIn_app (goodIn_of _ (by decide +kernel)) ggL_readPart_X6_readPart
theorem dL_readPart_0 : decode cL_readPart 0 = .ok (.aload_n 0, 1) := by decide +kernel
theorem dL_readPart_1 : decode cL_readPart 1 = .ok (.iload_n 1, 1) := by decide +kernel
theorem dL_readPart_2 : decode cL_readPart 2 = .ok (.iload_n 2, 1) := by decide +kernel
theorem dL_readPart_3 : decode cL_readPart 3 = .ok (.iload_n 3, 1) := by decide +kernel
theorem dL_readPart_4 : decode cL_readPart 4 = .ok (.iload 4, 2) := by decide +kernel
theorem dL_readPart_6 : decode cL_readPart 6 = .ok (.invokevirtual 84, 3) := by decide +kernel
theorem dL_readPart_9 : decode cL_readPart 9 = .ok (.i2l, 1) := by decide +kernel
theorem dL_readPart_10 : decode cL_readPart 10 = .ok (.lreturn, 1) := by decide +kernel
theorem dL_readPart_11 : decode cL_readPart 11 = .ok (.astore 5, 2) := by decide +kernel
theorem dL_readPart_13 : decode cL_readPart 13 = .ok (.ldc2_w 21, 3) := by decide +kernel
theorem dL_readPart_16 : decode cL_readPart 16 = .ok (.lreturn, 1) := by decide +kernel
theorem dL_readPart_17 : decode cL_readPart 17 = .ok (.astore 5, 2) := by decide +kernel
theorem dL_readPart_19 : decode cL_readPart 19 = .ok (.ldc2_w 25, 3) := by decide +kernel
theorem dL_readPart_22 : decode cL_readPart 22 = .ok (.lreturn, 1) := by decide +kernel
theorem dL_readPart_23 : decode cL_readPart 23 = .ok (.astore 5, 2) := by decide +kernel
theorem dL_readPart_25 : decode cL_readPart 25 = .ok (.ldc2_w 87, 3) := by decide +kernel
theorem dL_readPart_28 : decode cL_readPart 28 = .ok (.lreturn, 1) := by decide +kernel
theorem dL_readPart_29 : decode cL_readPart 29 = .ok (.astore 5, 2) := by decide +kernel
theorem dL_readPart_31 : decode cL_readPart 31 = .ok (.ldc2_w 89, 3) := by decide +kernel
theorem dL_readPart_34 : decode cL_readPart 34 = .ok (.lreturn, 1) := by decide +kernel
set_option maxRecDepth 20000 in
theorem ggL_skip_X6_skip : GoodIn wsL_skip wsX6_skip := goodIn_ca (goodIn_ca (goodIn_r _ [9, 10, 11, 12, 8, 13, 14, 15, 16, 17, 18, 19, 20, 21, 22, 23, 24, 25, 26, 27, 28, 29, 30, 31, 32, 33, 34, 35, 36, 37, 38, 39, 40, 41, 42, 43, 44, 45, 46, 47, 48, 49, 50, 51] (by decide +kernel) (by decide +kernel)) (goodIn_sub (fun _ h => List.mem_cons_of_mem _ (List.mem_append_left _ (List.mem_append_right _ h))) (by decide +kernel))) (goodIn_sub (fun _ h => List.mem_cons_of_mem _ (List.mem_append_right _ h)) (by decide +kernel))
set_option maxRecDepth 20000 in
theorem gL_skip_X6_skip : GoodIn wsL_skip (wsV RL 91 RX6 yX6_skip wsX6_skip) := goodIn_app (goodIn_of _ (by decide +kernel)) ggL_skip_X6_skip
theorem dL_skip_0 : decode cL_skip 0 = .ok (.aload_n 0, 1) := by decide +kernel
theorem dL_skip_1 : decode cL_skip 1 = .ok (.iload_n 1, 1) := by decide +kernel
theorem dL_skip_2 : decode cL_skip 2 = .ok (.lload_n 2, 1) := by decide +kernel
theorem dL_skip_3 : decode cL_skip 3 = .ok (.invokevirtual 91, 3) := by decide +kernel
theorem dL_skip_6 : decode cL_skip 6 = .ok (.lreturn, 1) := by decide +kernel
theorem dL_skip_7 : decode cL_skip 7 = .ok (.astore 4, 2) := by decide +kernel
theorem dL_skip_9 : decode cL_skip 9 = .ok (.ldc2_w 21, 3) := by decide +kernel
theorem dL_skip_12 : decode cL_skip 12 = .ok (.lreturn, 1) := by decide +kernel
theorem dL_skip_13 : decode cL_skip 13 = .ok (.astore 4, 2) := by decide +kernel
theorem dL_skip_15 : decode cL_skip 15 = .ok (.ldc2_w 25, 3) := by decide +kernel
theorem dL_skip_18 : decode cL_skip 18 = .ok (.lreturn, 1) := by decide +kernel
set_option maxRecDepth 20000 in
theorem ggL_mark_X6_mark : GoodIn wsL_mark wsX6_mark := goodIn_ca (goodIn_ca (goodIn_ca (goodIn_r _ [11, 12, 13, 14, 15, 16, 17, 18, 10, 19, 20, 21, 22, 23, 24, 25, 26, 27, 28, 29, 30, 31, 32, 33, 34, 35, 36, 37, 38, 39, 40, 41, 42, 43, 44, 45, 46, 47, 48, 49, 50] (by decide +kernel) (by decide +kernel)) (goodIn_sub (fun _ h => List.mem_cons_of_mem _ (List.mem_append_left _ (List.mem_append_left _ (List.mem_append_right _ h)))) (by decide +kernel))) (goodIn_sub (fun _ h => List.mem_cons_of_mem _ (List.mem_append_left _ (List.mem_append_right _ h))) (by decide +kernel))) (goodIn_sub (fun _ h => List.mem_cons_of_mem _ (List.mem_append_right _ h)) (by decide +kernel))
set_option maxRecDepth 20000 in
theorem gL_mark_X6_mark : GoodIn wsL_mark (wsV RL 95 RX6 yX6_mark wsX6_mark) := goodIn_app (goodIn_of _ (by decide +kernel)) ggL_mark_X6_mark
theorem dL_mark_0 : decode cL_mark 0 = .ok (.aload_n 0, 1) := by decide +kernel
theorem dL_mark_1 : decode cL_mark 1 = .ok (.iload_n 1, 1) := by decide +kernel
theorem dL_mark_2 : decode cL_mark 2 = .ok (.iload_n 2, 1) := by decide +kernel
theorem dL_mark_3 : decode cL_mark 3 = .ok (.invokevirtual 95, 3) := by decide +kernel
theorem dL_mark_6 : decode cL_mark 6 = .ok (.i2l, 1) := by decide +kernel
theorem dL_mark_7 : decode cL_mark 7 = .ok (.lreturn, 1) := by decide +kernel
theorem dL_mark_8 : decode cL_mark 8 = .ok (.astore_n 3, 1) := by decide +kernel
theorem dL_mark_9 : decode cL_mark 9 = .ok (.ldc2_w 21, 3) := by decide +kernel
theorem dL_mark_12 : decode cL_mark 12 = .ok (.lreturn, 1) := by decide +kernel
theorem dL_mark_13 : decode cL_mark 13 = .ok (.astore_n 3, 1) := by decide +kernel
theorem dL_mark_14 : decode cL_mark 14 = .ok (.ldc2_w 25, 3) := by decide +kernel
theorem dL_mark_17 : decode cL_mark 17 = .ok (.lreturn, 1) := by decide +kernel
theorem dL_mark_18 : decode cL_mark 18 = .ok (.astore_n 3, 1) := by decide +kernel
theorem dL_mark_19 : decode cL_mark 19 = .ok (.ldc2_w 87, 3) := by decide +kernel
theorem dL_mark_22 : decode cL_mark 22 = .ok (.lreturn, 1) := by decide +kernel
set_option maxRecDepth 20000 in
theorem ggL_back_X6_back : GoodIn wsL_back wsX6_back := goodIn_ca (goodIn_ca (goodIn_r _ [9, 10, 11, 12, 13, 14, 8, 15, 16, 17, 18, 19, 20, 21, 22, 23, 24, 25, 26, 27, 28, 29, 30, 31, 32, 33, 34, 35, 36, 37, 38, 39, 40, 41, 42, 43, 44, 45, 46] (by decide +kernel) (by decide +kernel)) (goodIn_sub (fun _ h => List.mem_cons_of_mem _ (List.mem_append_left _ (List.mem_append_right _ h))) (by decide +kernel))) (goodIn_sub (fun _ h => List.mem_cons_of_mem _ (List.mem_append_right _ h)) (by decide +kernel))
set_option maxRecDepth 20000 in
theorem gL_back_X6_back : GoodIn wsL_back (wsV RL 98 RX6 yX6_back wsX6_back) := goodIn_app (goodIn_of _ (by decide +kernel)) ggL_back_X6_back
theorem dL_back_0 : decode cL_back 0 = .ok (.aload_n 0, 1) := by decide +kernel
theorem dL_back_1 : decode cL_back 1 = .ok (.iload_n 1, 1) := by decide +kernel
theorem dL_back_2 : decode cL_back 2 = .ok (.invokevirtual 98, 3) := by decide +kernel
theorem dL_back_5 : decode cL_back 5 = .ok (.i2l, 1) := by decide +kernel
theorem dL_back_6 : decode cL_back 6 = .ok (.lreturn, 1) := by decide +kernel
theorem dL_back_7 : decode cL_back 7 = .ok (.astore_n 2, 1) := by decide +kernel
theorem dL_back_8 : decode cL_back 8 = .ok (.ldc2_w 21, 3) := by decide +kernel
theorem dL_back_11 : decode cL_back 11 = .ok (.lreturn, 1) := by decide +kernel
theorem dL_back_12 : decode cL_back 12 = .ok (.astore_n 2, 1) := by decide +kernel
theorem dL_back_13 : decode cL_back 13 = .ok (.ldc2_w 25, 3) := by decide +kernel
theorem dL_back_16 : decode cL_back 16 = .ok (.lreturn, 1) := by decide +kernel
set_option maxRecDepth 20000 in
theorem ggL_isTrue_X6_isTrue : GoodIn wsL_isTrue wsX6_isTrue := goodIn_ca (goodIn_r _ [5, 6, 7, 8, 9, 10, 11, 12, 13, 14, 15, 16, 17, 18, 19, 20, 21, 22, 23, 24, 25, 26, 27, 28, 29, 30, 31, 32, 33, 34, 35, 36, 37, 38, 39, 40, 41, 42, 43, 44, 45, 46, 47, 48, 49, 50, 51, 52, 53, 54, 55, 56, 57, 58, 59, 60, 61, 62, 63, 64, 65, 66, 67, 68, 69, 70, 71, 72, 73, 74, 75, 76, 77, 78, 79, 80, 81, 82, 83, 84, 85, 86, 87, 88, 89, 90, 91, 92, 93, 94, 95, 96, 97, 98, 99, 100, 101, 102, 103, 104, 105, 106, 107, 108, 109, 110, 111, 112, 113, 114, 115, 116, 117, 118, 119, 120, 121, 122, 123, 124, 125, 126, 127, 128, 129, 130, 131, 132, 133, 134, 135, 136, 137, 138, 139, 140, 141, 142, 143, 144, 145, 146, 147, 148, 149, 150, 151, 152, 153, 154, 155, 156, 157, 158, 159, 160, 161, 162, 163, 164, 165, 166] (by decide +kernel) (by decide +kernel)) (goodIn_sub (fun _ h => List.mem_cons_of_mem _ (List.mem_append_right _ h)) (by decide +kernel))
set_option maxRecDepth 20000 in
theorem gL_isTrue_X6_isTrue : GoodIn wsL_isTrue (wsV RL 101 RX6 yX6_isTrue wsX6_isTrue) := goodIn_app (goodIn_of _ (by decide +kernel)) ggL_isTrue_X6_isTrue
theorem dL_isTrue_0 : decode cL_isTrue 0 = .ok (.aload_n 0, 1) := by decide +kernel
theorem dL_isTrue_1 : decode cL_isTrue 1 = .ok (.invokevirtual 101, 3) := by decide +kernel
theorem dL_isTrue_4 : decode cL_isTrue 4 = .ok (.ifCond .eq 7, 3) := by decide +kernel
theorem dL_isTrue_7 : decode cL_isTrue 7 = .ok (.lconst 1, 1) := by decide +kernel
theorem dL_isTrue_8 : decode cL_isTrue 8 = .ok (.goto 4, 3) := by decide +kernel
theorem dL_isTrue_11 : decode cL_isTrue 11 = .ok (.lconst 0, 1) := by decide +kernel
theorem dL_isTrue_12 : decode cL_isTrue 12 = .ok (.lreturn, 1) := by decide +kernel
abbrev vwCl : List vw_C := [(RJ0, TJ0, 2), (RJx00060, TJx00060, 6), (RX0, TX0, 1), (RX1, TX1, 6), (RX2, TX2, 6), (RX3, TX3, 1), (RX4, TX4, 2), (RX5, TX5, 8), (RX6, TX6, 7)]

theorem wsL_law_x0 : ∀ w ∈ (vx_atM "java/lang/ArrayIndexOutOfBoundsException" ["java/lang/IndexOutOfBoundsException", "java/lang/RuntimeException", "java/lang/Exception"]).filter goodWord, w ∈ lw_tbl := by decide +kernel
theorem wsL_law_x1 : ∀ w ∈ (vx_atS RX6 68 "java/lang/IllegalArgumentException" ["java/lang/RuntimeException", "java/lang/Exception"]).filter goodWord, w ∈ lw_tbl := by decide +kernel
theorem wsL_law_x2 : ∀ w ∈ (vx_atS RX6 264 "java/lang/IndexOutOfBoundsException" ["java/lang/RuntimeException", "java/lang/Exception"]).filter goodWord, w ∈ lw_tbl := by decide +kernel
theorem wsL_law_x3 : ∀ w ∈ (vx_atS RX6 151 "java/lang/UnsupportedOperationException" ["java/lang/RuntimeException", "java/lang/Exception"]).filter goodWord, w ∈ lw_tbl := by decide +kernel
theorem wsL_law_x4 : ∀ w ∈ (vx_atS RX6 172 "java/lang/IllegalStateException" ["java/lang/RuntimeException", "java/lang/Exception"]).filter goodWord, w ∈ lw_tbl := by decide +kernel
theorem wsL_law_in : ∀ w ∈ wsL_law, w ∈ lw_tbl := fun w h => (List.mem_append.mp h).elim (fun h => (List.mem_append.mp h).elim (fun h => (List.mem_append.mp h).elim (fun h => (List.mem_append.mp h).elim (fun h => (List.mem_append.mp h).elim (fun h => wsL_law_in0 w h) (fun h => wsL_law_x0 w h)) (fun h => wsL_law_x1 w h)) (fun h => wsL_law_x2 w h)) (fun h => wsL_law_x3 w h)) (fun h => wsL_law_x4 w h)
theorem inlX0 : ∀ w ∈ wsX00, w ∈ wsL_law := fun _ h => List.mem_append_left _ (List.mem_append_left _ (List.mem_append_left _ (List.mem_append_left _ (List.mem_append_left _ (List.mem_append_left _ (List.mem_append_left _ (List.mem_append_left _ (List.mem_append_left _ (List.mem_append_left _ (List.mem_append_right _ h))))))))))
theorem inX0 : ∀ w ∈ wsX00, w ∈ lw_tbl := fun w h => wsL_law_in w (inlX0 w h)
theorem inlX1 : ∀ w ∈ wsX10, w ∈ wsL_law := fun _ h => List.mem_append_left _ (List.mem_append_left _ (List.mem_append_left _ (List.mem_append_left _ (List.mem_append_left _ (List.mem_append_left _ (List.mem_append_left _ (List.mem_append_right _ h)))))))
theorem inX1 : ∀ w ∈ wsX10, w ∈ lw_tbl := fun w h => wsL_law_in w (inlX1 w h)
theorem inlX2 : ∀ w ∈ wsX20, w ∈ wsL_law := fun _ h => List.mem_append_left _ (List.mem_append_left _ (List.mem_append_left _ (List.mem_append_left _ (List.mem_append_left _ (List.mem_append_left _ (List.mem_append_left _ (List.mem_append_left _ (List.mem_append_right _ h))))))))
theorem inX2 : ∀ w ∈ wsX20, w ∈ lw_tbl := fun w h => wsL_law_in w (inlX2 w h)
theorem inlX3 : ∀ w ∈ wsX30, w ∈ wsL_law := fun _ h => List.mem_append_left _ (List.mem_append_left _ (List.mem_append_left _ (List.mem_append_left _ (List.mem_append_left _ (List.mem_append_left _ (List.mem_append_left _ (List.mem_append_left _ (List.mem_append_left _ (List.mem_append_left _ (List.mem_append_left _ (List.mem_append_right _ h)))))))))))
theorem inX3 : ∀ w ∈ wsX30, w ∈ lw_tbl := fun w h => wsL_law_in w (inlX3 w h)
theorem inlX4 : ∀ w ∈ wsX40, w ∈ wsL_law := fun _ h => List.mem_append_left _ (List.mem_append_left _ (List.mem_append_left _ (List.mem_append_left _ (List.mem_append_left _ (List.mem_append_left _ (List.mem_append_left _ (List.mem_append_left _ (List.mem_append_left _ (List.mem_append_right _ h)))))))))
theorem inX4 : ∀ w ∈ wsX40, w ∈ lw_tbl := fun w h => wsL_law_in w (inlX4 w h)
theorem inlX5 : ∀ w ∈ wsX50, w ∈ wsL_law := fun _ h => List.mem_append_left _ (List.mem_append_left _ (List.mem_append_left _ (List.mem_append_left _ (List.mem_append_left _ (List.mem_append_left _ (List.mem_append_right _ h))))))
theorem inX5 : ∀ w ∈ wsX50, w ∈ lw_tbl := fun w h => wsL_law_in w (inlX5 w h)
theorem inlX6 : ∀ w ∈ wsX60, w ∈ wsL_law := fun _ h => List.mem_append_left _ (List.mem_append_left _ (List.mem_append_left _ (List.mem_append_left _ (List.mem_append_left _ (List.mem_append_left _ (List.mem_append_left _ (List.mem_append_left _ (List.mem_append_left _ (List.mem_append_left _ (List.mem_append_left _ (List.mem_append_left _ (List.mem_append_right _ h))))))))))))
theorem inX6 : ∀ w ∈ wsX60, w ∈ lw_tbl := fun w h => wsL_law_in w (inlX6 w h)
theorem inX7 : ∀ w ∈ wsX70, w ∈ lw_tbl := by decide +kernel
theorem inJx00060 : ∀ w ∈ wsJx000600, w ∈ lw_tbl := by decide +kernel
theorem inJ9 : ∀ w ∈ wsJ90, w ∈ lw_tbl := by decide +kernel
theorem inJ0 : ∀ w ∈ wsJ00, w ∈ lw_tbl := by decide +kernel
theorem dX0_init_0 : decode cX0_init 0 = .ok (.aload_n 0, 1) := by decide +kernel
theorem dX0_init_1 : decode cX0_init 1 = .ok (.invokespecial 1, 3) := by decide +kernel
theorem dX0_init_4 : decode cX0_init 4 = .ok (.aload_n 0, 1) := by decide +kernel
theorem dX0_init_5 : decode cX0_init 5 = .ok (.iload_n 1, 1) := by decide +kernel
theorem dX0_init_6 : decode cX0_init 6 = .ok (.newarray .byte, 2) := by decide +kernel
theorem dX0_init_8 : decode cX0_init 8 = .ok (.putfield 7, 3) := by decide +kernel
theorem dX0_init_11 : decode cX0_init 11 = .ok (.return_, 1) := by decide +kernel
theorem dX1_init_0 : decode cX1_init 0 = .ok (.aload_n 0, 1) := by decide +kernel
theorem dX1_init_1 : decode cX1_init 1 = .ok (.invokespecial 3, 3) := by decide +kernel
theorem dX1_init_4 : decode cX1_init 4 = .ok (.aload_n 0, 1) := by decide +kernel
theorem dX1_init_5 : decode cX1_init 5 = .ok (.iconst 3, 1) := by decide +kernel
theorem dX1_init_6 : decode cX1_init 6 = .ok (.anewarray 9, 3) := by decide +kernel
theorem dX1_init_9 : decode cX1_init 9 = .ok (.putfield 11, 3) := by decide +kernel
theorem dX1_init_12 : decode cX1_init 12 = .ok (.return_, 1) := by decide +kernel
theorem dX1_giveUpParts_0 : decode cX1_giveUpParts 0 = .ok (.aload_n 0, 1) := by decide +kernel
theorem dX1_giveUpParts_1 : decode cX1_giveUpParts 1 = .ok (.iconst 0, 1) := by decide +kernel
theorem dX1_giveUpParts_2 : decode cX1_giveUpParts 2 = .ok (.putfield 17, 3) := by decide +kernel
theorem dX1_giveUpParts_5 : decode cX1_giveUpParts 5 = .ok (.aload_n 0, 1) := by decide +kernel
theorem dX1_giveUpParts_6 : decode cX1_giveUpParts 6 = .ok (.iconst 0, 1) := by decide +kernel
theorem dX1_giveUpParts_7 : decode cX1_giveUpParts 7 = .ok (.putfield 21, 3) := by decide +kernel
theorem dX1_giveUpParts_10 : decode cX1_giveUpParts 10 = .ok (.aload_n 0, 1) := by decide +kernel
theorem dX1_giveUpParts_11 : decode cX1_giveUpParts 11 = .ok (.iconst 0, 1) := by decide +kernel
theorem dX1_giveUpParts_12 : decode cX1_giveUpParts 12 = .ok (.putfield 24, 3) := by decide +kernel
theorem dX1_giveUpParts_15 : decode cX1_giveUpParts 15 = .ok (.aload_n 0, 1) := by decide +kernel
theorem dX1_giveUpParts_16 : decode cX1_giveUpParts 16 = .ok (.iconst 0, 1) := by decide +kernel
theorem dX1_giveUpParts_17 : decode cX1_giveUpParts 17 = .ok (.putfield 27, 3) := by decide +kernel
theorem dX1_giveUpParts_20 : decode cX1_giveUpParts 20 = .ok (.aload_n 0, 1) := by decide +kernel
theorem dX1_giveUpParts_21 : decode cX1_giveUpParts 21 = .ok (.iconst 0, 1) := by decide +kernel
theorem dX1_giveUpParts_22 : decode cX1_giveUpParts 22 = .ok (.putfield 30, 3) := by decide +kernel
theorem dX1_giveUpParts_25 : decode cX1_giveUpParts 25 = .ok (.return_, 1) := by decide +kernel
theorem dX1_addRow_0 : decode cX1_addRow 0 = .ok (.aload_n 0, 1) := by decide +kernel
theorem dX1_addRow_1 : decode cX1_addRow 1 = .ok (.getfield 17, 3) := by decide +kernel
theorem dX1_addRow_4 : decode cX1_addRow 4 = .ok (.iconst 3, 1) := by decide +kernel
theorem dX1_addRow_5 : decode cX1_addRow 5 = .ok (.if_icmp .ge 37, 3) := by decide +kernel
theorem dX1_addRow_8 : decode cX1_addRow 8 = .ok (.aload_n 0, 1) := by decide +kernel
theorem dX1_addRow_9 : decode cX1_addRow 9 = .ok (.getfield 11, 3) := by decide +kernel
theorem dX1_addRow_12 : decode cX1_addRow 12 = .ok (.aload_n 0, 1) := by decide +kernel
theorem dX1_addRow_13 : decode cX1_addRow 13 = .ok (.getfield 17, 3) := by decide +kernel
theorem dX1_addRow_16 : decode cX1_addRow 16 = .ok (.aload_n 1, 1) := by decide +kernel
theorem dX1_addRow_17 : decode cX1_addRow 17 = .ok (.aastore, 1) := by decide +kernel
theorem dX1_addRow_18 : decode cX1_addRow 18 = .ok (.aload_n 0, 1) := by decide +kernel
theorem dX1_addRow_19 : decode cX1_addRow 19 = .ok (.dup, 1) := by decide +kernel
theorem dX1_addRow_20 : decode cX1_addRow 20 = .ok (.getfield 17, 3) := by decide +kernel
theorem dX1_addRow_23 : decode cX1_addRow 23 = .ok (.iconst 1, 1) := by decide +kernel
theorem dX1_addRow_24 : decode cX1_addRow 24 = .ok (.iadd, 1) := by decide +kernel
theorem dX1_addRow_25 : decode cX1_addRow 25 = .ok (.putfield 17, 3) := by decide +kernel
theorem dX1_addRow_28 : decode cX1_addRow 28 = .ok (.aload_n 0, 1) := by decide +kernel
theorem dX1_addRow_29 : decode cX1_addRow 29 = .ok (.dup, 1) := by decide +kernel
theorem dX1_addRow_30 : decode cX1_addRow 30 = .ok (.getfield 30, 3) := by decide +kernel
theorem dX1_addRow_33 : decode cX1_addRow 33 = .ok (.aload_n 1, 1) := by decide +kernel
theorem dX1_addRow_34 : decode cX1_addRow 34 = .ok (.getfield 33, 3) := by decide +kernel
theorem dX1_addRow_37 : decode cX1_addRow 37 = .ok (.arraylength, 1) := by decide +kernel
theorem dX1_addRow_38 : decode cX1_addRow 38 = .ok (.iadd, 1) := by decide +kernel
theorem dX1_addRow_39 : decode cX1_addRow 39 = .ok (.putfield 30, 3) := by decide +kernel
theorem dX1_addRow_42 : decode cX1_addRow 42 = .ok (.return_, 1) := by decide +kernel
set_option maxRecDepth 20000 in
theorem ggX1_joinRows_X1_giveUpParts : GoodIn wsX1_joinRows wsX1_giveUpParts := goodIn_r _ [5, 6, 7, 8, 9, 10, 17, 18, 19, 20, 21, 22] (by decide +kernel) (by decide +kernel)
set_option maxRecDepth 20000 in
theorem gX1_joinRows_X1_giveUpParts : GoodIn wsX1_joinRows (wsV RX1 37 RX1 yX1_giveUpParts wsX1_giveUpParts) := goodIn_app (goodIn_of _ (by decide +kernel)) ggX1_joinRows_X1_giveUpParts
set_option maxRecDepth 20000 in
theorem ggX1_joinRows_X1_addRow : GoodIn wsX1_joinRows wsX1_addRow := goodIn_r _ [14, 6, 15, 10, 16, 17, 18, 19, 20, 21, 22, 23] (by decide +kernel) (by decide +kernel)
set_option maxRecDepth 20000 in
theorem gX1_joinRows_X1_addRow : GoodIn wsX1_joinRows (wsV RX1 40 RX1 yX1_addRow wsX1_addRow) := goodIn_app (goodIn_of _ (by decide +kernel)) ggX1_joinRows_X1_addRow
theorem dX1_joinRows_0 : decode cX1_joinRows 0 = .ok (.aload_n 0, 1) := by decide +kernel
theorem dX1_joinRows_1 : decode cX1_joinRows 1 = .ok (.invokevirtual 37, 3) := by decide +kernel
theorem dX1_joinRows_4 : decode cX1_joinRows 4 = .ok (.aload_n 0, 1) := by decide +kernel
theorem dX1_joinRows_5 : decode cX1_joinRows 5 = .ok (.aload_n 1, 1) := by decide +kernel
theorem dX1_joinRows_6 : decode cX1_joinRows 6 = .ok (.invokevirtual 40, 3) := by decide +kernel
theorem dX1_joinRows_9 : decode cX1_joinRows 9 = .ok (.aload_n 0, 1) := by decide +kernel
theorem dX1_joinRows_10 : decode cX1_joinRows 10 = .ok (.aload_n 2, 1) := by decide +kernel
theorem dX1_joinRows_11 : decode cX1_joinRows 11 = .ok (.invokevirtual 40, 3) := by decide +kernel
theorem dX1_joinRows_14 : decode cX1_joinRows 14 = .ok (.aload_n 0, 1) := by decide +kernel
theorem dX1_joinRows_15 : decode cX1_joinRows 15 = .ok (.aload_n 3, 1) := by decide +kernel
theorem dX1_joinRows_16 : decode cX1_joinRows 16 = .ok (.invokevirtual 40, 3) := by decide +kernel
theorem dX1_joinRows_19 : decode cX1_joinRows 19 = .ok (.return_, 1) := by decide +kernel
theorem dX1_findByte_0 : decode cX1_findByte 0 = .ok (.aload_n 0, 1) := by decide +kernel
theorem dX1_findByte_1 : decode cX1_findByte 1 = .ok (.getfield 21, 3) := by decide +kernel
theorem dX1_findByte_4 : decode cX1_findByte 4 = .ok (.aload_n 0, 1) := by decide +kernel
theorem dX1_findByte_5 : decode cX1_findByte 5 = .ok (.getfield 17, 3) := by decide +kernel
theorem dX1_findByte_8 : decode cX1_findByte 8 = .ok (.if_icmp .ge 41, 3) := by decide +kernel
theorem dX1_findByte_11 : decode cX1_findByte 11 = .ok (.aload_n 0, 1) := by decide +kernel
theorem dX1_findByte_12 : decode cX1_findByte 12 = .ok (.getfield 24, 3) := by decide +kernel
theorem dX1_findByte_15 : decode cX1_findByte 15 = .ok (.aload_n 0, 1) := by decide +kernel
theorem dX1_findByte_16 : decode cX1_findByte 16 = .ok (.getfield 11, 3) := by decide +kernel
theorem dX1_findByte_19 : decode cX1_findByte 19 = .ok (.aload_n 0, 1) := by decide +kernel
theorem dX1_findByte_20 : decode cX1_findByte 20 = .ok (.getfield 21, 3) := by decide +kernel
theorem dX1_findByte_23 : decode cX1_findByte 23 = .ok (.aaload, 1) := by decide +kernel
theorem dX1_findByte_24 : decode cX1_findByte 24 = .ok (.getfield 33, 3) := by decide +kernel
theorem dX1_findByte_27 : decode cX1_findByte 27 = .ok (.arraylength, 1) := by decide +kernel
theorem dX1_findByte_28 : decode cX1_findByte 28 = .ok (.if_icmp .lt 21, 3) := by decide +kernel
theorem dX1_findByte_31 : decode cX1_findByte 31 = .ok (.aload_n 0, 1) := by decide +kernel
theorem dX1_findByte_32 : decode cX1_findByte 32 = .ok (.dup, 1) := by decide +kernel
theorem dX1_findByte_33 : decode cX1_findByte 33 = .ok (.getfield 21, 3) := by decide +kernel
theorem dX1_findByte_36 : decode cX1_findByte 36 = .ok (.iconst 1, 1) := by decide +kernel
theorem dX1_findByte_37 : decode cX1_findByte 37 = .ok (.iadd, 1) := by decide +kernel
theorem dX1_findByte_38 : decode cX1_findByte 38 = .ok (.putfield 21, 3) := by decide +kernel
theorem dX1_findByte_41 : decode cX1_findByte 41 = .ok (.aload_n 0, 1) := by decide +kernel
theorem dX1_findByte_42 : decode cX1_findByte 42 = .ok (.iconst 0, 1) := by decide +kernel
theorem dX1_findByte_43 : decode cX1_findByte 43 = .ok (.putfield 24, 3) := by decide +kernel
theorem dX1_findByte_46 : decode cX1_findByte 46 = .ok (.goto (-46), 3) := by decide +kernel
theorem dX1_findByte_49 : decode cX1_findByte 49 = .ok (.aload_n 0, 1) := by decide +kernel
theorem dX1_findByte_50 : decode cX1_findByte 50 = .ok (.getfield 21, 3) := by decide +kernel
theorem dX1_findByte_53 : decode cX1_findByte 53 = .ok (.aload_n 0, 1) := by decide +kernel
theorem dX1_findByte_54 : decode cX1_findByte 54 = .ok (.getfield 17, 3) := by decide +kernel
theorem dX1_findByte_57 : decode cX1_findByte 57 = .ok (.if_icmp .ge 7, 3) := by decide +kernel
theorem dX1_findByte_60 : decode cX1_findByte 60 = .ok (.iconst 1, 1) := by decide +kernel
theorem dX1_findByte_61 : decode cX1_findByte 61 = .ok (.goto 4, 3) := by decide +kernel
theorem dX1_findByte_64 : decode cX1_findByte 64 = .ok (.iconst 0, 1) := by decide +kernel
theorem dX1_findByte_65 : decode cX1_findByte 65 = .ok (.ireturn, 1) := by decide +kernel
set_option maxRecDepth 20000 in
theorem ggX1_readOne_X1_findByte : GoodIn wsX1_readOne wsX1_findByte := goodIn_r _ [10, 2, 11, 4, 1, 3, 12, 13, 14, 15, 16, 17, 18] (by decide +kernel) (by decide +kernel)
set_option maxRecDepth 20000 in
theorem gX1_readOne_X1_findByte : GoodIn wsX1_readOne (wsV RX1 44 RX1 yX1_findByte wsX1_findByte) := goodIn_app (goodIn_of _ (by decide +kernel)) ggX1_readOne_X1_findByte
theorem dX1_readOne_0 : decode cX1_readOne 0 = .ok (.aload_n 0, 1) := by decide +kernel
theorem dX1_readOne_1 : decode cX1_readOne 1 = .ok (.invokevirtual 44, 3) := by decide +kernel
theorem dX1_readOne_4 : decode cX1_readOne 4 = .ok (.ifCond .ne 5, 3) := by decide +kernel
theorem dX1_readOne_7 : decode cX1_readOne 7 = .ok (.iconst (-1), 1) := by decide +kernel
theorem dX1_readOne_8 : decode cX1_readOne 8 = .ok (.ireturn, 1) := by decide +kernel
theorem dX1_readOne_9 : decode cX1_readOne 9 = .ok (.aload_n 0, 1) := by decide +kernel
theorem dX1_readOne_10 : decode cX1_readOne 10 = .ok (.getfield 11, 3) := by decide +kernel
theorem dX1_readOne_13 : decode cX1_readOne 13 = .ok (.aload_n 0, 1) := by decide +kernel
theorem dX1_readOne_14 : decode cX1_readOne 14 = .ok (.getfield 21, 3) := by decide +kernel
theorem dX1_readOne_17 : decode cX1_readOne 17 = .ok (.aaload, 1) := by decide +kernel
theorem dX1_readOne_18 : decode cX1_readOne 18 = .ok (.getfield 33, 3) := by decide +kernel
theorem dX1_readOne_21 : decode cX1_readOne 21 = .ok (.aload_n 0, 1) := by decide +kernel
theorem dX1_readOne_22 : decode cX1_readOne 22 = .ok (.getfield 24, 3) := by decide +kernel
theorem dX1_readOne_25 : decode cX1_readOne 25 = .ok (.baload, 1) := by decide +kernel
theorem dX1_readOne_26 : decode cX1_readOne 26 = .ok (.sipush 255, 3) := by decide +kernel
theorem dX1_readOne_29 : decode cX1_readOne 29 = .ok (.iand, 1) := by decide +kernel
theorem dX1_readOne_30 : decode cX1_readOne 30 = .ok (.istore_n 1, 1) := by decide +kernel
theorem dX1_readOne_31 : decode cX1_readOne 31 = .ok (.aload_n 0, 1) := by decide +kernel
theorem dX1_readOne_32 : decode cX1_readOne 32 = .ok (.dup, 1) := by decide +kernel
theorem dX1_readOne_33 : decode cX1_readOne 33 = .ok (.getfield 24, 3) := by decide +kernel
theorem dX1_readOne_36 : decode cX1_readOne 36 = .ok (.iconst 1, 1) := by decide +kernel
theorem dX1_readOne_37 : decode cX1_readOne 37 = .ok (.iadd, 1) := by decide +kernel
theorem dX1_readOne_38 : decode cX1_readOne 38 = .ok (.putfield 24, 3) := by decide +kernel
theorem dX1_readOne_41 : decode cX1_readOne 41 = .ok (.aload_n 0, 1) := by decide +kernel
theorem dX1_readOne_42 : decode cX1_readOne 42 = .ok (.dup, 1) := by decide +kernel
theorem dX1_readOne_43 : decode cX1_readOne 43 = .ok (.getfield 27, 3) := by decide +kernel
theorem dX1_readOne_46 : decode cX1_readOne 46 = .ok (.iconst 1, 1) := by decide +kernel
theorem dX1_readOne_47 : decode cX1_readOne 47 = .ok (.iadd, 1) := by decide +kernel
theorem dX1_readOne_48 : decode cX1_readOne 48 = .ok (.putfield 27, 3) := by decide +kernel
theorem dX1_readOne_51 : decode cX1_readOne 51 = .ok (.iload_n 1, 1) := by decide +kernel
theorem dX1_readOne_52 : decode cX1_readOne 52 = .ok (.ireturn, 1) := by decide +kernel
set_option maxRecDepth 20000 in
theorem ggX1_readSome_X1_findByte : GoodIn wsX1_readSome wsX1_findByte := goodIn_r _ [14, 2, 15, 4, 1, 3, 16, 17, 18, 19, 20, 21, 22] (by decide +kernel) (by decide +kernel)
set_option maxRecDepth 20000 in
theorem gX1_readSome_X1_findByte : GoodIn wsX1_readSome (wsV RX1 44 RX1 yX1_findByte wsX1_findByte) := goodIn_app (goodIn_of _ (by decide +kernel)) ggX1_readSome_X1_findByte
theorem dX1_readSome_0 : decode cX1_readSome 0 = .ok (.aload_n 0, 1) := by decide +kernel
theorem dX1_readSome_1 : decode cX1_readSome 1 = .ok (.invokevirtual 44, 3) := by decide +kernel
theorem dX1_readSome_4 : decode cX1_readSome 4 = .ok (.ifCond .ne 5, 3) := by decide +kernel
theorem dX1_readSome_7 : decode cX1_readSome 7 = .ok (.iconst (-1), 1) := by decide +kernel
theorem dX1_readSome_8 : decode cX1_readSome 8 = .ok (.ireturn, 1) := by decide +kernel
theorem dX1_readSome_9 : decode cX1_readSome 9 = .ok (.aload_n 0, 1) := by decide +kernel
theorem dX1_readSome_10 : decode cX1_readSome 10 = .ok (.getfield 11, 3) := by decide +kernel
theorem dX1_readSome_13 : decode cX1_readSome 13 = .ok (.aload_n 0, 1) := by decide +kernel
theorem dX1_readSome_14 : decode cX1_readSome 14 = .ok (.getfield 21, 3) := by decide +kernel
theorem dX1_readSome_17 : decode cX1_readSome 17 = .ok (.aaload, 1) := by decide +kernel
theorem dX1_readSome_18 : decode cX1_readSome 18 = .ok (.getfield 33, 3) := by decide +kernel
theorem dX1_readSome_21 : decode cX1_readSome 21 = .ok (.astore 4, 2) := by decide +kernel
theorem dX1_readSome_23 : decode cX1_readSome 23 = .ok (.iload_n 3, 1) := by decide +kernel
theorem dX1_readSome_24 : decode cX1_readSome 24 = .ok (.aload 4, 2) := by decide +kernel
theorem dX1_readSome_26 : decode cX1_readSome 26 = .ok (.arraylength, 1) := by decide +kernel
theorem dX1_readSome_27 : decode cX1_readSome 27 = .ok (.aload_n 0, 1) := by decide +kernel
theorem dX1_readSome_28 : decode cX1_readSome 28 = .ok (.getfield 24, 3) := by decide +kernel
theorem dX1_readSome_31 : decode cX1_readSome 31 = .ok (.isub, 1) := by decide +kernel
theorem dX1_readSome_32 : decode cX1_readSome 32 = .ok (.invokestatic 48, 3) := by decide +kernel
theorem dX1_readSome_35 : decode cX1_readSome 35 = .ok (.istore 5, 2) := by decide +kernel
theorem dX1_readSome_37 : decode cX1_readSome 37 = .ok (.iconst 0, 1) := by decide +kernel
theorem dX1_readSome_38 : decode cX1_readSome 38 = .ok (.istore 6, 2) := by decide +kernel
theorem dX1_readSome_40 : decode cX1_readSome 40 = .ok (.iload 6, 2) := by decide +kernel
theorem dX1_readSome_42 : decode cX1_readSome 42 = .ok (.iload 5, 2) := by decide +kernel
theorem dX1_readSome_44 : decode cX1_readSome 44 = .ok (.if_icmp .ge 25, 3) := by decide +kernel
theorem dX1_readSome_47 : decode cX1_readSome 47 = .ok (.aload_n 1, 1) := by decide +kernel
theorem dX1_readSome_48 : decode cX1_readSome 48 = .ok (.iload_n 2, 1) := by decide +kernel
theorem dX1_readSome_49 : decode cX1_readSome 49 = .ok (.iload 6, 2) := by decide +kernel
theorem dX1_readSome_51 : decode cX1_readSome 51 = .ok (.iadd, 1) := by decide +kernel
theorem dX1_readSome_52 : decode cX1_readSome 52 = .ok (.aload 4, 2) := by decide +kernel
theorem dX1_readSome_54 : decode cX1_readSome 54 = .ok (.aload_n 0, 1) := by decide +kernel
theorem dX1_readSome_55 : decode cX1_readSome 55 = .ok (.getfield 24, 3) := by decide +kernel
theorem dX1_readSome_58 : decode cX1_readSome 58 = .ok (.iload 6, 2) := by decide +kernel
theorem dX1_readSome_60 : decode cX1_readSome 60 = .ok (.iadd, 1) := by decide +kernel
theorem dX1_readSome_61 : decode cX1_readSome 61 = .ok (.baload, 1) := by decide +kernel
theorem dX1_readSome_62 : decode cX1_readSome 62 = .ok (.bastore, 1) := by decide +kernel
theorem dX1_readSome_63 : decode cX1_readSome 63 = .ok (.iinc 6 1, 3) := by decide +kernel
theorem dX1_readSome_66 : decode cX1_readSome 66 = .ok (.goto (-26), 3) := by decide +kernel
theorem dX1_readSome_69 : decode cX1_readSome 69 = .ok (.aload_n 0, 1) := by decide +kernel
theorem dX1_readSome_70 : decode cX1_readSome 70 = .ok (.dup, 1) := by decide +kernel
theorem dX1_readSome_71 : decode cX1_readSome 71 = .ok (.getfield 24, 3) := by decide +kernel
theorem dX1_readSome_74 : decode cX1_readSome 74 = .ok (.iload 5, 2) := by decide +kernel
theorem dX1_readSome_76 : decode cX1_readSome 76 = .ok (.iadd, 1) := by decide +kernel
theorem dX1_readSome_77 : decode cX1_readSome 77 = .ok (.putfield 24, 3) := by decide +kernel
theorem dX1_readSome_80 : decode cX1_readSome 80 = .ok (.aload_n 0, 1) := by decide +kernel
theorem dX1_readSome_81 : decode cX1_readSome 81 = .ok (.dup, 1) := by decide +kernel
theorem dX1_readSome_82 : decode cX1_readSome 82 = .ok (.getfield 27, 3) := by decide +kernel
theorem dX1_readSome_85 : decode cX1_readSome 85 = .ok (.iload 5, 2) := by decide +kernel
theorem dX1_readSome_87 : decode cX1_readSome 87 = .ok (.iadd, 1) := by decide +kernel
theorem dX1_readSome_88 : decode cX1_readSome 88 = .ok (.putfield 27, 3) := by decide +kernel
theorem dX1_readSome_91 : decode cX1_readSome 91 = .ok (.iload 5, 2) := by decide +kernel
theorem dX1_readSome_93 : decode cX1_readSome 93 = .ok (.ireturn, 1) := by decide +kernel
set_option maxRecDepth 20000 in
theorem ggX2_init_X3_init : GoodIn wsX2_init wsX3_init := goodIn_r _ [10, 11, 2, 3, 12, 13, 14] (by decide +kernel) (by decide +kernel)
set_option maxRecDepth 20000 in
theorem gX2_init_X3_init : GoodIn wsX2_init (wsX3_init) := ggX2_init_X3_init
theorem dX2_init_0 : decode cX2_init 0 = .ok (.aload_n 0, 1) := by decide +kernel
theorem dX2_init_1 : decode cX2_init 1 = .ok (.invokespecial 1, 3) := by decide +kernel
theorem dX2_init_4 : decode cX2_init 4 = .ok (.aload_n 0, 1) := by decide +kernel
theorem dX2_init_5 : decode cX2_init 5 = .ok (.new 7, 3) := by decide +kernel
theorem dX2_init_8 : decode cX2_init 8 = .ok (.dup, 1) := by decide +kernel
theorem dX2_init_9 : decode cX2_init 9 = .ok (.iconst 0, 1) := by decide +kernel
theorem dX2_init_10 : decode cX2_init 10 = .ok (.invokespecial 9, 3) := by decide +kernel
theorem dX2_init_13 : decode cX2_init 13 = .ok (.putfield 12, 3) := by decide +kernel
theorem dX2_init_16 : decode cX2_init 16 = .ok (.return_, 1) := by decide +kernel
theorem dX2_openOn_0 : decode cX2_openOn 0 = .ok (.aload_n 0, 1) := by decide +kernel
theorem dX2_openOn_1 : decode cX2_openOn 1 = .ok (.aload_n 1, 1) := by decide +kernel
theorem dX2_openOn_2 : decode cX2_openOn 2 = .ok (.putfield 12, 3) := by decide +kernel
theorem dX2_openOn_5 : decode cX2_openOn 5 = .ok (.aload_n 0, 1) := by decide +kernel
theorem dX2_openOn_6 : decode cX2_openOn 6 = .ok (.iload_n 2, 1) := by decide +kernel
theorem dX2_openOn_7 : decode cX2_openOn 7 = .ok (.putfield 18, 3) := by decide +kernel
theorem dX2_openOn_10 : decode cX2_openOn 10 = .ok (.aload_n 0, 1) := by decide +kernel
theorem dX2_openOn_11 : decode cX2_openOn 11 = .ok (.iload_n 2, 1) := by decide +kernel
theorem dX2_openOn_12 : decode cX2_openOn 12 = .ok (.iload_n 3, 1) := by decide +kernel
theorem dX2_openOn_13 : decode cX2_openOn 13 = .ok (.aload_n 1, 1) := by decide +kernel
theorem dX2_openOn_14 : decode cX2_openOn 14 = .ok (.getfield 22, 3) := by decide +kernel
theorem dX2_openOn_17 : decode cX2_openOn 17 = .ok (.arraylength, 1) := by decide +kernel
theorem dX2_openOn_18 : decode cX2_openOn 18 = .ok (.iload_n 2, 1) := by decide +kernel
theorem dX2_openOn_19 : decode cX2_openOn 19 = .ok (.isub, 1) := by decide +kernel
theorem dX2_openOn_20 : decode cX2_openOn 20 = .ok (.invokestatic 26, 3) := by decide +kernel
theorem dX2_openOn_23 : decode cX2_openOn 23 = .ok (.iadd, 1) := by decide +kernel
theorem dX2_openOn_24 : decode cX2_openOn 24 = .ok (.putfield 32, 3) := by decide +kernel
theorem dX2_openOn_27 : decode cX2_openOn 27 = .ok (.aload_n 0, 1) := by decide +kernel
theorem dX2_openOn_28 : decode cX2_openOn 28 = .ok (.iload_n 2, 1) := by decide +kernel
theorem dX2_openOn_29 : decode cX2_openOn 29 = .ok (.putfield 35, 3) := by decide +kernel
theorem dX2_openOn_32 : decode cX2_openOn 32 = .ok (.aload_n 0, 1) := by decide +kernel
theorem dX2_openOn_33 : decode cX2_openOn 33 = .ok (.iconst 1, 1) := by decide +kernel
theorem dX2_openOn_34 : decode cX2_openOn 34 = .ok (.putfield 38, 3) := by decide +kernel
theorem dX2_openOn_37 : decode cX2_openOn 37 = .ok (.aload_n 0, 1) := by decide +kernel
theorem dX2_openOn_38 : decode cX2_openOn 38 = .ok (.iconst 0, 1) := by decide +kernel
theorem dX2_openOn_39 : decode cX2_openOn 39 = .ok (.putfield 42, 3) := by decide +kernel
theorem dX2_openOn_42 : decode cX2_openOn 42 = .ok (.return_, 1) := by decide +kernel
theorem dX2_countRest_0 : decode cX2_countRest 0 = .ok (.aload_n 0, 1) := by decide +kernel
theorem dX2_countRest_1 : decode cX2_countRest 1 = .ok (.getfield 32, 3) := by decide +kernel
theorem dX2_countRest_4 : decode cX2_countRest 4 = .ok (.aload_n 0, 1) := by decide +kernel
theorem dX2_countRest_5 : decode cX2_countRest 5 = .ok (.getfield 18, 3) := by decide +kernel
theorem dX2_countRest_8 : decode cX2_countRest 8 = .ok (.isub, 1) := by decide +kernel
theorem dX2_countRest_9 : decode cX2_countRest 9 = .ok (.ireturn, 1) := by decide +kernel
theorem dX2_readOne_0 : decode cX2_readOne 0 = .ok (.aload_n 0, 1) := by decide +kernel
theorem dX2_readOne_1 : decode cX2_readOne 1 = .ok (.getfield 18, 3) := by decide +kernel
theorem dX2_readOne_4 : decode cX2_readOne 4 = .ok (.aload_n 0, 1) := by decide +kernel
theorem dX2_readOne_5 : decode cX2_readOne 5 = .ok (.getfield 32, 3) := by decide +kernel
theorem dX2_readOne_8 : decode cX2_readOne 8 = .ok (.if_icmp .lt 5, 3) := by decide +kernel
theorem dX2_readOne_11 : decode cX2_readOne 11 = .ok (.iconst (-1), 1) := by decide +kernel
theorem dX2_readOne_12 : decode cX2_readOne 12 = .ok (.ireturn, 1) := by decide +kernel
theorem dX2_readOne_13 : decode cX2_readOne 13 = .ok (.aload_n 0, 1) := by decide +kernel
theorem dX2_readOne_14 : decode cX2_readOne 14 = .ok (.getfield 12, 3) := by decide +kernel
theorem dX2_readOne_17 : decode cX2_readOne 17 = .ok (.getfield 22, 3) := by decide +kernel
theorem dX2_readOne_20 : decode cX2_readOne 20 = .ok (.aload_n 0, 1) := by decide +kernel
theorem dX2_readOne_21 : decode cX2_readOne 21 = .ok (.getfield 18, 3) := by decide +kernel
theorem dX2_readOne_24 : decode cX2_readOne 24 = .ok (.caload, 1) := by decide +kernel
theorem dX2_readOne_25 : decode cX2_readOne 25 = .ok (.istore_n 1, 1) := by decide +kernel
theorem dX2_readOne_26 : decode cX2_readOne 26 = .ok (.aload_n 0, 1) := by decide +kernel
theorem dX2_readOne_27 : decode cX2_readOne 27 = .ok (.dup, 1) := by decide +kernel
theorem dX2_readOne_28 : decode cX2_readOne 28 = .ok (.getfield 18, 3) := by decide +kernel
theorem dX2_readOne_31 : decode cX2_readOne 31 = .ok (.iconst 1, 1) := by decide +kernel
theorem dX2_readOne_32 : decode cX2_readOne 32 = .ok (.iadd, 1) := by decide +kernel
theorem dX2_readOne_33 : decode cX2_readOne 33 = .ok (.putfield 18, 3) := by decide +kernel
theorem dX2_readOne_36 : decode cX2_readOne 36 = .ok (.iload_n 1, 1) := by decide +kernel
theorem dX2_readOne_37 : decode cX2_readOne 37 = .ok (.ireturn, 1) := by decide +kernel
theorem dX2_readSome_0 : decode cX2_readSome 0 = .ok (.aload_n 0, 1) := by decide +kernel
theorem dX2_readSome_1 : decode cX2_readSome 1 = .ok (.getfield 18, 3) := by decide +kernel
theorem dX2_readSome_4 : decode cX2_readSome 4 = .ok (.aload_n 0, 1) := by decide +kernel
theorem dX2_readSome_5 : decode cX2_readSome 5 = .ok (.getfield 32, 3) := by decide +kernel
theorem dX2_readSome_8 : decode cX2_readSome 8 = .ok (.if_icmp .lt 5, 3) := by decide +kernel
theorem dX2_readSome_11 : decode cX2_readSome 11 = .ok (.iconst (-1), 1) := by decide +kernel
theorem dX2_readSome_12 : decode cX2_readSome 12 = .ok (.ireturn, 1) := by decide +kernel
theorem dX2_readSome_13 : decode cX2_readSome 13 = .ok (.iload_n 3, 1) := by decide +kernel
theorem dX2_readSome_14 : decode cX2_readSome 14 = .ok (.aload_n 0, 1) := by decide +kernel
theorem dX2_readSome_15 : decode cX2_readSome 15 = .ok (.getfield 32, 3) := by decide +kernel
theorem dX2_readSome_18 : decode cX2_readSome 18 = .ok (.aload_n 0, 1) := by decide +kernel
theorem dX2_readSome_19 : decode cX2_readSome 19 = .ok (.getfield 18, 3) := by decide +kernel
theorem dX2_readSome_22 : decode cX2_readSome 22 = .ok (.isub, 1) := by decide +kernel
theorem dX2_readSome_23 : decode cX2_readSome 23 = .ok (.invokestatic 26, 3) := by decide +kernel
theorem dX2_readSome_26 : decode cX2_readSome 26 = .ok (.istore 4, 2) := by decide +kernel
theorem dX2_readSome_28 : decode cX2_readSome 28 = .ok (.iconst 0, 1) := by decide +kernel
theorem dX2_readSome_29 : decode cX2_readSome 29 = .ok (.istore 5, 2) := by decide +kernel
theorem dX2_readSome_31 : decode cX2_readSome 31 = .ok (.iload 5, 2) := by decide +kernel
theorem dX2_readSome_33 : decode cX2_readSome 33 = .ok (.iload 4, 2) := by decide +kernel
theorem dX2_readSome_35 : decode cX2_readSome 35 = .ok (.if_icmp .ge 30, 3) := by decide +kernel
theorem dX2_readSome_38 : decode cX2_readSome 38 = .ok (.aload_n 1, 1) := by decide +kernel
theorem dX2_readSome_39 : decode cX2_readSome 39 = .ok (.iload_n 2, 1) := by decide +kernel
theorem dX2_readSome_40 : decode cX2_readSome 40 = .ok (.iload 5, 2) := by decide +kernel
theorem dX2_readSome_42 : decode cX2_readSome 42 = .ok (.iadd, 1) := by decide +kernel
theorem dX2_readSome_43 : decode cX2_readSome 43 = .ok (.aload_n 0, 1) := by decide +kernel
theorem dX2_readSome_44 : decode cX2_readSome 44 = .ok (.getfield 12, 3) := by decide +kernel
theorem dX2_readSome_47 : decode cX2_readSome 47 = .ok (.getfield 22, 3) := by decide +kernel
theorem dX2_readSome_50 : decode cX2_readSome 50 = .ok (.aload_n 0, 1) := by decide +kernel
theorem dX2_readSome_51 : decode cX2_readSome 51 = .ok (.getfield 18, 3) := by decide +kernel
theorem dX2_readSome_54 : decode cX2_readSome 54 = .ok (.iload 5, 2) := by decide +kernel
theorem dX2_readSome_56 : decode cX2_readSome 56 = .ok (.iadd, 1) := by decide +kernel
theorem dX2_readSome_57 : decode cX2_readSome 57 = .ok (.caload, 1) := by decide +kernel
theorem dX2_readSome_58 : decode cX2_readSome 58 = .ok (.castore, 1) := by decide +kernel
theorem dX2_readSome_59 : decode cX2_readSome 59 = .ok (.iinc 5 1, 3) := by decide +kernel
theorem dX2_readSome_62 : decode cX2_readSome 62 = .ok (.goto (-31), 3) := by decide +kernel
theorem dX2_readSome_65 : decode cX2_readSome 65 = .ok (.aload_n 0, 1) := by decide +kernel
theorem dX2_readSome_66 : decode cX2_readSome 66 = .ok (.dup, 1) := by decide +kernel
theorem dX2_readSome_67 : decode cX2_readSome 67 = .ok (.getfield 18, 3) := by decide +kernel
theorem dX2_readSome_70 : decode cX2_readSome 70 = .ok (.iload 4, 2) := by decide +kernel
theorem dX2_readSome_72 : decode cX2_readSome 72 = .ok (.iadd, 1) := by decide +kernel
theorem dX2_readSome_73 : decode cX2_readSome 73 = .ok (.putfield 18, 3) := by decide +kernel
theorem dX2_readSome_76 : decode cX2_readSome 76 = .ok (.iload 4, 2) := by decide +kernel
theorem dX2_readSome_78 : decode cX2_readSome 78 = .ok (.ireturn, 1) := by decide +kernel
theorem dX2_skipSome_0 : decode cX2_skipSome 0 = .ok (.lconst 0, 1) := by decide +kernel
theorem dX2_skipSome_1 : decode cX2_skipSome 1 = .ok (.lload_n 1, 1) := by decide +kernel
theorem dX2_skipSome_2 : decode cX2_skipSome 2 = .ok (.aload_n 0, 1) := by decide +kernel
theorem dX2_skipSome_3 : decode cX2_skipSome 3 = .ok (.getfield 32, 3) := by decide +kernel
theorem dX2_skipSome_6 : decode cX2_skipSome 6 = .ok (.aload_n 0, 1) := by decide +kernel
theorem dX2_skipSome_7 : decode cX2_skipSome 7 = .ok (.getfield 18, 3) := by decide +kernel
theorem dX2_skipSome_10 : decode cX2_skipSome 10 = .ok (.isub, 1) := by decide +kernel
theorem dX2_skipSome_11 : decode cX2_skipSome 11 = .ok (.i2l, 1) := by decide +kernel
theorem dX2_skipSome_12 : decode cX2_skipSome 12 = .ok (.invokestatic 45, 3) := by decide +kernel
theorem dX2_skipSome_15 : decode cX2_skipSome 15 = .ok (.invokestatic 48, 3) := by decide +kernel
theorem dX2_skipSome_18 : decode cX2_skipSome 18 = .ok (.lstore_n 3, 1) := by decide +kernel
theorem dX2_skipSome_19 : decode cX2_skipSome 19 = .ok (.aload_n 0, 1) := by decide +kernel
theorem dX2_skipSome_20 : decode cX2_skipSome 20 = .ok (.dup, 1) := by decide +kernel
theorem dX2_skipSome_21 : decode cX2_skipSome 21 = .ok (.getfield 18, 3) := by decide +kernel
theorem dX2_skipSome_24 : decode cX2_skipSome 24 = .ok (.lload_n 3, 1) := by decide +kernel
theorem dX2_skipSome_25 : decode cX2_skipSome 25 = .ok (.l2i, 1) := by decide +kernel
theorem dX2_skipSome_26 : decode cX2_skipSome 26 = .ok (.iadd, 1) := by decide +kernel
theorem dX2_skipSome_27 : decode cX2_skipSome 27 = .ok (.putfield 18, 3) := by decide +kernel
theorem dX2_skipSome_30 : decode cX2_skipSome 30 = .ok (.lload_n 3, 1) := by decide +kernel
theorem dX2_skipSome_31 : decode cX2_skipSome 31 = .ok (.lreturn, 1) := by decide +kernel
theorem dX3_init_0 : decode cX3_init 0 = .ok (.aload_n 0, 1) := by decide +kernel
theorem dX3_init_1 : decode cX3_init 1 = .ok (.invokespecial 1, 3) := by decide +kernel
theorem dX3_init_4 : decode cX3_init 4 = .ok (.aload_n 0, 1) := by decide +kernel
theorem dX3_init_5 : decode cX3_init 5 = .ok (.iload_n 1, 1) := by decide +kernel
theorem dX3_init_6 : decode cX3_init 6 = .ok (.newarray .char, 2) := by decide +kernel
theorem dX3_init_8 : decode cX3_init 8 = .ok (.putfield 7, 3) := by decide +kernel
theorem dX3_init_11 : decode cX3_init 11 = .ok (.return_, 1) := by decide +kernel
theorem dX4_init_0 : decode cX4_init 0 = .ok (.aload_n 0, 1) := by decide +kernel
theorem dX4_init_1 : decode cX4_init 1 = .ok (.invokespecial 3, 3) := by decide +kernel
theorem dX4_init_4 : decode cX4_init 4 = .ok (.aload_n 0, 1) := by decide +kernel
theorem dX4_init_5 : decode cX4_init 5 = .ok (.sipush 256, 3) := by decide +kernel
theorem dX4_init_8 : decode cX4_init 8 = .ok (.newarray .char, 2) := by decide +kernel
theorem dX4_init_10 : decode cX4_init 10 = .ok (.putfield 9, 3) := by decide +kernel
theorem dX4_init_13 : decode cX4_init 13 = .ok (.return_, 1) := by decide +kernel
theorem dX4_addAll_0 : decode cX4_addAll 0 = .ok (.iconst 0, 1) := by decide +kernel
theorem dX4_addAll_1 : decode cX4_addAll 1 = .ok (.istore 4, 2) := by decide +kernel
theorem dX4_addAll_3 : decode cX4_addAll 3 = .ok (.iload 4, 2) := by decide +kernel
theorem dX4_addAll_5 : decode cX4_addAll 5 = .ok (.iload_n 3, 1) := by decide +kernel
theorem dX4_addAll_6 : decode cX4_addAll 6 = .ok (.if_icmp .ge 27, 3) := by decide +kernel
theorem dX4_addAll_9 : decode cX4_addAll 9 = .ok (.aload_n 0, 1) := by decide +kernel
theorem dX4_addAll_10 : decode cX4_addAll 10 = .ok (.getfield 9, 3) := by decide +kernel
theorem dX4_addAll_13 : decode cX4_addAll 13 = .ok (.aload_n 0, 1) := by decide +kernel
theorem dX4_addAll_14 : decode cX4_addAll 14 = .ok (.getfield 15, 3) := by decide +kernel
theorem dX4_addAll_17 : decode cX4_addAll 17 = .ok (.iload 4, 2) := by decide +kernel
theorem dX4_addAll_19 : decode cX4_addAll 19 = .ok (.iadd, 1) := by decide +kernel
theorem dX4_addAll_20 : decode cX4_addAll 20 = .ok (.aload_n 1, 1) := by decide +kernel
theorem dX4_addAll_21 : decode cX4_addAll 21 = .ok (.iload_n 2, 1) := by decide +kernel
theorem dX4_addAll_22 : decode cX4_addAll 22 = .ok (.iload 4, 2) := by decide +kernel
theorem dX4_addAll_24 : decode cX4_addAll 24 = .ok (.iadd, 1) := by decide +kernel
theorem dX4_addAll_25 : decode cX4_addAll 25 = .ok (.caload, 1) := by decide +kernel
theorem dX4_addAll_26 : decode cX4_addAll 26 = .ok (.castore, 1) := by decide +kernel
theorem dX4_addAll_27 : decode cX4_addAll 27 = .ok (.iinc 4 1, 3) := by decide +kernel
theorem dX4_addAll_30 : decode cX4_addAll 30 = .ok (.goto (-27), 3) := by decide +kernel
theorem dX4_addAll_33 : decode cX4_addAll 33 = .ok (.aload_n 0, 1) := by decide +kernel
theorem dX4_addAll_34 : decode cX4_addAll 34 = .ok (.dup, 1) := by decide +kernel
theorem dX4_addAll_35 : decode cX4_addAll 35 = .ok (.getfield 15, 3) := by decide +kernel
theorem dX4_addAll_38 : decode cX4_addAll 38 = .ok (.iload_n 3, 1) := by decide +kernel
theorem dX4_addAll_39 : decode cX4_addAll 39 = .ok (.iadd, 1) := by decide +kernel
theorem dX4_addAll_40 : decode cX4_addAll 40 = .ok (.putfield 15, 3) := by decide +kernel
theorem dX4_addAll_43 : decode cX4_addAll 43 = .ok (.return_, 1) := by decide +kernel
theorem dX4_copyTo_0 : decode cX4_copyTo 0 = .ok (.iconst 0, 1) := by decide +kernel
theorem dX4_copyTo_1 : decode cX4_copyTo 1 = .ok (.istore_n 2, 1) := by decide +kernel
theorem dX4_copyTo_2 : decode cX4_copyTo 2 = .ok (.iload_n 2, 1) := by decide +kernel
theorem dX4_copyTo_3 : decode cX4_copyTo 3 = .ok (.aload_n 0, 1) := by decide +kernel
theorem dX4_copyTo_4 : decode cX4_copyTo 4 = .ok (.getfield 15, 3) := by decide +kernel
theorem dX4_copyTo_7 : decode cX4_copyTo 7 = .ok (.if_icmp .ge 18, 3) := by decide +kernel
theorem dX4_copyTo_10 : decode cX4_copyTo 10 = .ok (.aload_n 1, 1) := by decide +kernel
theorem dX4_copyTo_11 : decode cX4_copyTo 11 = .ok (.iload_n 2, 1) := by decide +kernel
theorem dX4_copyTo_12 : decode cX4_copyTo 12 = .ok (.aload_n 0, 1) := by decide +kernel
theorem dX4_copyTo_13 : decode cX4_copyTo 13 = .ok (.getfield 9, 3) := by decide +kernel
theorem dX4_copyTo_16 : decode cX4_copyTo 16 = .ok (.iload_n 2, 1) := by decide +kernel
theorem dX4_copyTo_17 : decode cX4_copyTo 17 = .ok (.caload, 1) := by decide +kernel
theorem dX4_copyTo_18 : decode cX4_copyTo 18 = .ok (.castore, 1) := by decide +kernel
theorem dX4_copyTo_19 : decode cX4_copyTo 19 = .ok (.iinc 2 1, 3) := by decide +kernel
theorem dX4_copyTo_22 : decode cX4_copyTo 22 = .ok (.goto (-20), 3) := by decide +kernel
theorem dX4_copyTo_25 : decode cX4_copyTo 25 = .ok (.return_, 1) := by decide +kernel
theorem dX4_giveUpAll_0 : decode cX4_giveUpAll 0 = .ok (.aload_n 0, 1) := by decide +kernel
theorem dX4_giveUpAll_1 : decode cX4_giveUpAll 1 = .ok (.getfield 15, 3) := by decide +kernel
theorem dX4_giveUpAll_4 : decode cX4_giveUpAll 4 = .ok (.istore_n 1, 1) := by decide +kernel
theorem dX4_giveUpAll_5 : decode cX4_giveUpAll 5 = .ok (.aload_n 0, 1) := by decide +kernel
theorem dX4_giveUpAll_6 : decode cX4_giveUpAll 6 = .ok (.iconst 0, 1) := by decide +kernel
theorem dX4_giveUpAll_7 : decode cX4_giveUpAll 7 = .ok (.putfield 15, 3) := by decide +kernel
theorem dX4_giveUpAll_10 : decode cX4_giveUpAll 10 = .ok (.iload_n 1, 1) := by decide +kernel
theorem dX4_giveUpAll_11 : decode cX4_giveUpAll 11 = .ok (.ireturn, 1) := by decide +kernel
theorem dX4_hasSameAs_0 : decode cX4_hasSameAs 0 = .ok (.aload_n 0, 1) := by decide +kernel
theorem dX4_hasSameAs_1 : decode cX4_hasSameAs 1 = .ok (.getfield 15, 3) := by decide +kernel
theorem dX4_hasSameAs_4 : decode cX4_hasSameAs 4 = .ok (.aload_n 1, 1) := by decide +kernel
theorem dX4_hasSameAs_5 : decode cX4_hasSameAs 5 = .ok (.getfield 15, 3) := by decide +kernel
theorem dX4_hasSameAs_8 : decode cX4_hasSameAs 8 = .ok (.if_icmp .eq 5, 3) := by decide +kernel
theorem dX4_hasSameAs_11 : decode cX4_hasSameAs 11 = .ok (.iconst 0, 1) := by decide +kernel
theorem dX4_hasSameAs_12 : decode cX4_hasSameAs 12 = .ok (.ireturn, 1) := by decide +kernel
theorem dX4_hasSameAs_13 : decode cX4_hasSameAs 13 = .ok (.iconst 0, 1) := by decide +kernel
theorem dX4_hasSameAs_14 : decode cX4_hasSameAs 14 = .ok (.istore_n 2, 1) := by decide +kernel
theorem dX4_hasSameAs_15 : decode cX4_hasSameAs 15 = .ok (.iload_n 2, 1) := by decide +kernel
theorem dX4_hasSameAs_16 : decode cX4_hasSameAs 16 = .ok (.aload_n 0, 1) := by decide +kernel
theorem dX4_hasSameAs_17 : decode cX4_hasSameAs 17 = .ok (.getfield 15, 3) := by decide +kernel
theorem dX4_hasSameAs_20 : decode cX4_hasSameAs 20 = .ok (.if_icmp .ge 26, 3) := by decide +kernel
theorem dX4_hasSameAs_23 : decode cX4_hasSameAs 23 = .ok (.aload_n 0, 1) := by decide +kernel
theorem dX4_hasSameAs_24 : decode cX4_hasSameAs 24 = .ok (.getfield 9, 3) := by decide +kernel
theorem dX4_hasSameAs_27 : decode cX4_hasSameAs 27 = .ok (.iload_n 2, 1) := by decide +kernel
theorem dX4_hasSameAs_28 : decode cX4_hasSameAs 28 = .ok (.caload, 1) := by decide +kernel
theorem dX4_hasSameAs_29 : decode cX4_hasSameAs 29 = .ok (.aload_n 1, 1) := by decide +kernel
theorem dX4_hasSameAs_30 : decode cX4_hasSameAs 30 = .ok (.getfield 9, 3) := by decide +kernel
theorem dX4_hasSameAs_33 : decode cX4_hasSameAs 33 = .ok (.iload_n 2, 1) := by decide +kernel
theorem dX4_hasSameAs_34 : decode cX4_hasSameAs 34 = .ok (.caload, 1) := by decide +kernel
theorem dX4_hasSameAs_35 : decode cX4_hasSameAs 35 = .ok (.if_icmp .eq 5, 3) := by decide +kernel
theorem dX4_hasSameAs_38 : decode cX4_hasSameAs 38 = .ok (.iconst 0, 1) := by decide +kernel
theorem dX4_hasSameAs_39 : decode cX4_hasSameAs 39 = .ok (.ireturn, 1) := by decide +kernel
theorem dX4_hasSameAs_40 : decode cX4_hasSameAs 40 = .ok (.iinc 2 1, 3) := by decide +kernel
theorem dX4_hasSameAs_43 : decode cX4_hasSameAs 43 = .ok (.goto (-28), 3) := by decide +kernel
theorem dX4_hasSameAs_46 : decode cX4_hasSameAs 46 = .ok (.iconst 1, 1) := by decide +kernel
theorem dX4_hasSameAs_47 : decode cX4_hasSameAs 47 = .ok (.ireturn, 1) := by decide +kernel
set_option maxRecDepth 20000 in
theorem ggX5_init_X3_init : GoodIn wsX5_init wsX3_init := goodIn_r _ [28, 29, 2, 3, 8, 30, 46] (by decide +kernel) (by decide +kernel)
set_option maxRecDepth 20000 in
theorem gX5_init_X3_init : GoodIn wsX5_init (wsX3_init) := ggX5_init_X3_init
set_option maxRecDepth 20000 in
theorem ggX5_init_X2_init : GoodIn wsX5_init wsX2_init := goodIn_r _ [32, 33, 2, 3, 34, 5, 6, 35, 36, 27, 28, 29, 8, 30, 46, 55, 56, 57, 58, 59, 60] (by decide +kernel) (by decide +kernel)
set_option maxRecDepth 20000 in
theorem gX5_init_X2_init_n26 : GoodIn wsX5_init (wsX2_init) := ggX5_init_X2_init
set_option maxRecDepth 20000 in
theorem ggX5_init_X4_init : GoodIn wsX5_init wsX4_init := goodIn_r _ [38, 39, 2, 3, 8, 40, 61, 62] (by decide +kernel) (by decide +kernel)
set_option maxRecDepth 20000 in
theorem gX5_init_X4_init_n33 : GoodIn wsX5_init (wsX4_init) := ggX5_init_X4_init
set_option maxRecDepth 20000 in
theorem ggX5_init_X1_init : GoodIn wsX5_init wsX1_init := goodIn_r _ [42, 43, 2, 3, 44, 45, 63, 64, 65, 66, 67, 68] (by decide +kernel) (by decide +kernel)
set_option maxRecDepth 20000 in
theorem gX5_init_X1_init_n50 : GoodIn wsX5_init (wsX1_init) := ggX5_init_X1_init
theorem dX5_init_0 : decode cX5_init 0 = .ok (.aload_n 0, 1) := by decide +kernel
theorem dX5_init_1 : decode cX5_init 1 = .ok (.invokespecial 3, 3) := by decide +kernel
theorem dX5_init_4 : decode cX5_init 4 = .ok (.aload_n 0, 1) := by decide +kernel
theorem dX5_init_5 : decode cX5_init 5 = .ok (.new 9, 3) := by decide +kernel
theorem dX5_init_8 : decode cX5_init 8 = .ok (.dup, 1) := by decide +kernel
theorem dX5_init_9 : decode cX5_init 9 = .ok (.sipush 256, 3) := by decide +kernel
theorem dX5_init_12 : decode cX5_init 12 = .ok (.invokespecial 11, 3) := by decide +kernel
theorem dX5_init_15 : decode cX5_init 15 = .ok (.putfield 14, 3) := by decide +kernel
theorem dX5_init_18 : decode cX5_init 18 = .ok (.aload_n 0, 1) := by decide +kernel
theorem dX5_init_19 : decode cX5_init 19 = .ok (.iconst 3, 1) := by decide +kernel
theorem dX5_init_20 : decode cX5_init 20 = .ok (.newarray .char, 2) := by decide +kernel
theorem dX5_init_22 : decode cX5_init 22 = .ok (.putfield 20, 3) := by decide +kernel
theorem dX5_init_25 : decode cX5_init 25 = .ok (.aload_n 0, 1) := by decide +kernel
theorem dX5_init_26 : decode cX5_init 26 = .ok (.new 24, 3) := by decide +kernel
theorem dX5_init_29 : decode cX5_init 29 = .ok (.dup, 1) := by decide +kernel
theorem dX5_init_30 : decode cX5_init 30 = .ok (.invokespecial 26, 3) := by decide +kernel
theorem dX5_init_33 : decode cX5_init 33 = .ok (.putfield 27, 3) := by decide +kernel
theorem dX5_init_36 : decode cX5_init 36 = .ok (.aload_n 0, 1) := by decide +kernel
theorem dX5_init_37 : decode cX5_init 37 = .ok (.new 31, 3) := by decide +kernel
theorem dX5_init_40 : decode cX5_init 40 = .ok (.dup, 1) := by decide +kernel
theorem dX5_init_41 : decode cX5_init 41 = .ok (.invokespecial 33, 3) := by decide +kernel
theorem dX5_init_44 : decode cX5_init 44 = .ok (.putfield 34, 3) := by decide +kernel
theorem dX5_init_47 : decode cX5_init 47 = .ok (.aload_n 0, 1) := by decide +kernel
theorem dX5_init_48 : decode cX5_init 48 = .ok (.new 31, 3) := by decide +kernel
theorem dX5_init_51 : decode cX5_init 51 = .ok (.dup, 1) := by decide +kernel
theorem dX5_init_52 : decode cX5_init 52 = .ok (.invokespecial 33, 3) := by decide +kernel
theorem dX5_init_55 : decode cX5_init 55 = .ok (.putfield 38, 3) := by decide +kernel
theorem dX5_init_58 : decode cX5_init 58 = .ok (.aload_n 0, 1) := by decide +kernel
theorem dX5_init_59 : decode cX5_init 59 = .ok (.sipush 192, 3) := by decide +kernel
theorem dX5_init_62 : decode cX5_init 62 = .ok (.newarray .byte, 2) := by decide +kernel
theorem dX5_init_64 : decode cX5_init 64 = .ok (.putfield 41, 3) := by decide +kernel
theorem dX5_init_67 : decode cX5_init 67 = .ok (.aload_n 0, 1) := by decide +kernel
theorem dX5_init_68 : decode cX5_init 68 = .ok (.iconst 2, 1) := by decide +kernel
theorem dX5_init_69 : decode cX5_init 69 = .ok (.newarray .byte, 2) := by decide +kernel
theorem dX5_init_71 : decode cX5_init 71 = .ok (.putfield 45, 3) := by decide +kernel
theorem dX5_init_74 : decode cX5_init 74 = .ok (.aload_n 0, 1) := by decide +kernel
theorem dX5_init_75 : decode cX5_init 75 = .ok (.new 48, 3) := by decide +kernel
theorem dX5_init_78 : decode cX5_init 78 = .ok (.dup, 1) := by decide +kernel
theorem dX5_init_79 : decode cX5_init 79 = .ok (.invokespecial 50, 3) := by decide +kernel
theorem dX5_init_82 : decode cX5_init 82 = .ok (.putfield 51, 3) := by decide +kernel
theorem dX5_init_85 : decode cX5_init 85 = .ok (.return_, 1) := by decide +kernel
set_option maxRecDepth 20000 in
theorem ggX5_holdsForWriter_X5_isReadByOnes : GoodIn wsX5_holdsForWriter wsX5_isReadByOnes := goodIn_ca (goodIn_r _ [5, 6, 7, 8, 9, 10, 11, 4, 12, 13, 14, 15, 16, 17, 18, 19, 20, 21, 22, 23, 24, 25, 26, 27, 28, 29, 30, 31, 32, 33, 34, 35, 36, 37, 38, 39, 40, 41, 70, 71, 72, 73, 74, 75, 76, 77, 78, 79, 80, 81, 82, 83, 84, 85, 86] (by decide +kernel) (by decide +kernel)) (goodIn_sub (fun _ h => List.mem_cons_of_mem _ (List.mem_append_right _ h)) (by decide +kernel))
set_option maxRecDepth 20000 in
theorem gX5_holdsForWriter_X5_isReadByOnes : GoodIn wsX5_holdsForWriter (wsV RX5 55 RX5 yX5_isReadByOnes wsX5_isReadByOnes) := goodIn_app (goodIn_of _ (by decide +kernel)) ggX5_holdsForWriter_X5_isReadByOnes
set_option maxRecDepth 20000 in
theorem ggX5_holdsForWriter_X5_isReadByThrees : GoodIn wsX5_holdsForWriter wsX5_isReadByThrees := goodIn_ca (goodIn_r _ [45, 6, 46, 31, 32, 33, 7, 47, 8, 9, 10, 11, 4, 12, 13, 14, 15, 16, 17, 18, 19, 20, 21, 22, 23, 24, 25, 26, 27, 28, 29, 30, 34, 35, 36, 37, 48, 49, 50, 51, 70, 71, 72, 73, 74, 75, 76, 77, 78, 79, 80, 81, 82, 83, 84, 85, 86] (by decide +kernel) (by decide +kernel)) (goodIn_sub (fun _ h => List.mem_cons_of_mem _ (List.mem_append_right _ h)) (by decide +kernel))
set_option maxRecDepth 20000 in
theorem gX5_holdsForWriter_X5_isReadByThrees : GoodIn wsX5_holdsForWriter (wsV RX5 59 RX5 yX5_isReadByThrees wsX5_isReadByThrees) := goodIn_app (goodIn_of _ (by decide +kernel)) ggX5_holdsForWriter_X5_isReadByThrees
set_option maxRecDepth 20000 in
theorem ggX5_holdsForWriter_X5_isPoured : GoodIn wsX5_holdsForWriter wsX5_isPoured := goodIn_ca (goodIn_r _ [55, 56, 8, 6, 57, 58, 59, 60, 18, 61, 20, 62, 63, 64, 65, 21, 66, 67, 68, 69, 72, 73, 74, 75, 76, 77, 78, 79, 70, 71] (by decide +kernel) (by decide +kernel)) (goodIn_sub (fun _ h => List.mem_cons_of_mem _ (List.mem_append_right _ h)) (by decide +kernel))
set_option maxRecDepth 20000 in
theorem gX5_holdsForWriter_X5_isPoured : GoodIn wsX5_holdsForWriter (wsV RX5 62 RX5 yX5_isPoured wsX5_isPoured) := goodIn_app (goodIn_of _ (by decide +kernel)) ggX5_holdsForWriter_X5_isPoured
theorem dX5_holdsForWriter_0 : decode cX5_holdsForWriter 0 = .ok (.aload_n 0, 1) := by decide +kernel
theorem dX5_holdsForWriter_1 : decode cX5_holdsForWriter 1 = .ok (.aload_n 1, 1) := by decide +kernel
theorem dX5_holdsForWriter_2 : decode cX5_holdsForWriter 2 = .ok (.invokevirtual 55, 3) := by decide +kernel
theorem dX5_holdsForWriter_5 : decode cX5_holdsForWriter 5 = .ok (.ifCond .eq 23, 3) := by decide +kernel
theorem dX5_holdsForWriter_8 : decode cX5_holdsForWriter 8 = .ok (.aload_n 0, 1) := by decide +kernel
theorem dX5_holdsForWriter_9 : decode cX5_holdsForWriter 9 = .ok (.aload_n 1, 1) := by decide +kernel
theorem dX5_holdsForWriter_10 : decode cX5_holdsForWriter 10 = .ok (.invokevirtual 59, 3) := by decide +kernel
theorem dX5_holdsForWriter_13 : decode cX5_holdsForWriter 13 = .ok (.ifCond .eq 15, 3) := by decide +kernel
theorem dX5_holdsForWriter_16 : decode cX5_holdsForWriter 16 = .ok (.aload_n 0, 1) := by decide +kernel
theorem dX5_holdsForWriter_17 : decode cX5_holdsForWriter 17 = .ok (.aload_n 1, 1) := by decide +kernel
theorem dX5_holdsForWriter_18 : decode cX5_holdsForWriter 18 = .ok (.invokevirtual 62, 3) := by decide +kernel
theorem dX5_holdsForWriter_21 : decode cX5_holdsForWriter 21 = .ok (.ifCond .eq 7, 3) := by decide +kernel
theorem dX5_holdsForWriter_24 : decode cX5_holdsForWriter 24 = .ok (.iconst 1, 1) := by decide +kernel
theorem dX5_holdsForWriter_25 : decode cX5_holdsForWriter 25 = .ok (.goto 4, 3) := by decide +kernel
theorem dX5_holdsForWriter_28 : decode cX5_holdsForWriter 28 = .ok (.iconst 0, 1) := by decide +kernel
theorem dX5_holdsForWriter_29 : decode cX5_holdsForWriter 29 = .ok (.ireturn, 1) := by decide +kernel
set_option maxRecDepth 20000 in
theorem ggX5_holdsForRows_X5_putTogether : GoodIn wsX5_holdsForRows wsX5_putTogether := goodIn_ca (goodIn_r _ [7, 8, 55, 56, 57, 58, 59, 60, 61, 62] (by decide +kernel) (by decide +kernel)) (goodIn_sub (fun _ h => List.mem_cons_of_mem _ (List.mem_append_right _ h)) (by decide +kernel))
set_option maxRecDepth 20000 in
theorem gX5_holdsForRows_X5_putTogether : GoodIn wsX5_holdsForRows (wsV RX5 70 RX5 yX5_putTogether wsX5_putTogether) := goodIn_app (goodIn_of _ (by decide +kernel)) ggX5_holdsForRows_X5_putTogether
set_option maxRecDepth 20000 in
theorem ggX5_holdsForRows_X1_joinRows : GoodIn wsX5_holdsForRows wsX1_joinRows := goodIn_r _ [13, 14, 15, 16, 12, 17, 18, 19, 20, 21, 22, 23, 24, 25, 26, 27, 28, 63, 64, 65, 66, 67, 68, 54] (by decide +kernel) (by decide +kernel)
set_option maxRecDepth 20000 in
theorem gX5_holdsForRows_X1_joinRows : GoodIn wsX5_holdsForRows (wsV RX5 74 RX1 yX1_joinRows wsX1_joinRows) := goodIn_app (goodIn_of _ (by decide +kernel)) ggX5_holdsForRows_X1_joinRows
set_option maxRecDepth 20000 in
theorem ggX5_holdsForRows_X5_givesOnes : GoodIn wsX5_holdsForRows wsX5_givesOnes := goodIn_ca (goodIn_r _ [32, 2, 8, 33, 34, 35, 12, 36, 27, 19, 28, 20, 21, 37, 38, 39, 40, 18, 55, 56, 57, 58, 59, 60, 61, 62, 63, 64, 65, 66, 67, 68, 54] (by decide +kernel) (by decide +kernel)) (goodIn_sub (fun _ h => List.mem_cons_of_mem _ (List.mem_append_right _ h)) (by decide +kernel))
set_option maxRecDepth 20000 in
theorem gX5_holdsForRows_X5_givesOnes : GoodIn wsX5_holdsForRows (wsV RX5 78 RX5 yX5_givesOnes wsX5_givesOnes) := goodIn_app (goodIn_of _ (by decide +kernel)) ggX5_holdsForRows_X5_givesOnes
set_option maxRecDepth 20000 in
theorem ggX5_holdsForRows_X5_givesTwos : GoodIn wsX5_holdsForRows wsX5_givesTwos := goodIn_ca (goodIn_r _ [44, 2, 45, 8, 46, 47, 48, 12, 49, 27, 19, 28, 20, 50, 51, 52, 53, 21, 37, 38, 39, 40, 18, 55, 56, 57, 58, 59, 60, 61, 62, 63, 64, 65, 66, 67, 68, 54] (by decide +kernel) (by decide +kernel)) (goodIn_sub (fun _ h => List.mem_cons_of_mem _ (List.mem_append_right _ h)) (by decide +kernel))
set_option maxRecDepth 20000 in
theorem gX5_holdsForRows_X5_givesTwos : GoodIn wsX5_holdsForRows (wsV RX5 82 RX5 yX5_givesTwos wsX5_givesTwos) := goodIn_app (goodIn_of _ (by decide +kernel)) ggX5_holdsForRows_X5_givesTwos
theorem dX5_holdsForRows_0 : decode cX5_holdsForRows 0 = .ok (.aload_n 0, 1) := by decide +kernel
theorem dX5_holdsForRows_1 : decode cX5_holdsForRows 1 = .ok (.aload_n 1, 1) := by decide +kernel
theorem dX5_holdsForRows_2 : decode cX5_holdsForRows 2 = .ok (.getfield 65, 3) := by decide +kernel
theorem dX5_holdsForRows_5 : decode cX5_holdsForRows 5 = .ok (.iconst 0, 1) := by decide +kernel
theorem dX5_holdsForRows_6 : decode cX5_holdsForRows 6 = .ok (.invokevirtual 70, 3) := by decide +kernel
theorem dX5_holdsForRows_9 : decode cX5_holdsForRows 9 = .ok (.istore 4, 2) := by decide +kernel
theorem dX5_holdsForRows_11 : decode cX5_holdsForRows 11 = .ok (.aload_n 0, 1) := by decide +kernel
theorem dX5_holdsForRows_12 : decode cX5_holdsForRows 12 = .ok (.aload_n 2, 1) := by decide +kernel
theorem dX5_holdsForRows_13 : decode cX5_holdsForRows 13 = .ok (.getfield 65, 3) := by decide +kernel
theorem dX5_holdsForRows_16 : decode cX5_holdsForRows 16 = .ok (.iload 4, 2) := by decide +kernel
theorem dX5_holdsForRows_18 : decode cX5_holdsForRows 18 = .ok (.invokevirtual 70, 3) := by decide +kernel
theorem dX5_holdsForRows_21 : decode cX5_holdsForRows 21 = .ok (.istore 4, 2) := by decide +kernel
theorem dX5_holdsForRows_23 : decode cX5_holdsForRows 23 = .ok (.aload_n 0, 1) := by decide +kernel
theorem dX5_holdsForRows_24 : decode cX5_holdsForRows 24 = .ok (.aload_n 3, 1) := by decide +kernel
theorem dX5_holdsForRows_25 : decode cX5_holdsForRows 25 = .ok (.getfield 65, 3) := by decide +kernel
theorem dX5_holdsForRows_28 : decode cX5_holdsForRows 28 = .ok (.iload 4, 2) := by decide +kernel
theorem dX5_holdsForRows_30 : decode cX5_holdsForRows 30 = .ok (.invokevirtual 70, 3) := by decide +kernel
theorem dX5_holdsForRows_33 : decode cX5_holdsForRows 33 = .ok (.istore 4, 2) := by decide +kernel
theorem dX5_holdsForRows_35 : decode cX5_holdsForRows 35 = .ok (.aload_n 0, 1) := by decide +kernel
theorem dX5_holdsForRows_36 : decode cX5_holdsForRows 36 = .ok (.getfield 51, 3) := by decide +kernel
theorem dX5_holdsForRows_39 : decode cX5_holdsForRows 39 = .ok (.aload_n 1, 1) := by decide +kernel
theorem dX5_holdsForRows_40 : decode cX5_holdsForRows 40 = .ok (.aload_n 2, 1) := by decide +kernel
theorem dX5_holdsForRows_41 : decode cX5_holdsForRows 41 = .ok (.aload_n 3, 1) := by decide +kernel
theorem dX5_holdsForRows_42 : decode cX5_holdsForRows 42 = .ok (.invokevirtual 74, 3) := by decide +kernel
theorem dX5_holdsForRows_45 : decode cX5_holdsForRows 45 = .ok (.aload_n 0, 1) := by decide +kernel
theorem dX5_holdsForRows_46 : decode cX5_holdsForRows 46 = .ok (.iload 4, 2) := by decide +kernel
theorem dX5_holdsForRows_48 : decode cX5_holdsForRows 48 = .ok (.invokevirtual 78, 3) := by decide +kernel
theorem dX5_holdsForRows_51 : decode cX5_holdsForRows 51 = .ok (.istore 5, 2) := by decide +kernel
theorem dX5_holdsForRows_53 : decode cX5_holdsForRows 53 = .ok (.aload_n 0, 1) := by decide +kernel
theorem dX5_holdsForRows_54 : decode cX5_holdsForRows 54 = .ok (.getfield 51, 3) := by decide +kernel
theorem dX5_holdsForRows_57 : decode cX5_holdsForRows 57 = .ok (.aload_n 1, 1) := by decide +kernel
theorem dX5_holdsForRows_58 : decode cX5_holdsForRows 58 = .ok (.aload_n 2, 1) := by decide +kernel
theorem dX5_holdsForRows_59 : decode cX5_holdsForRows 59 = .ok (.aload_n 3, 1) := by decide +kernel
theorem dX5_holdsForRows_60 : decode cX5_holdsForRows 60 = .ok (.invokevirtual 74, 3) := by decide +kernel
theorem dX5_holdsForRows_63 : decode cX5_holdsForRows 63 = .ok (.iload 5, 2) := by decide +kernel
theorem dX5_holdsForRows_65 : decode cX5_holdsForRows 65 = .ok (.ifCond .eq 16, 3) := by decide +kernel
theorem dX5_holdsForRows_68 : decode cX5_holdsForRows 68 = .ok (.aload_n 0, 1) := by decide +kernel
theorem dX5_holdsForRows_69 : decode cX5_holdsForRows 69 = .ok (.iload 4, 2) := by decide +kernel
theorem dX5_holdsForRows_71 : decode cX5_holdsForRows 71 = .ok (.invokevirtual 82, 3) := by decide +kernel
theorem dX5_holdsForRows_74 : decode cX5_holdsForRows 74 = .ok (.ifCond .eq 7, 3) := by decide +kernel
theorem dX5_holdsForRows_77 : decode cX5_holdsForRows 77 = .ok (.iconst 1, 1) := by decide +kernel
theorem dX5_holdsForRows_78 : decode cX5_holdsForRows 78 = .ok (.goto 4, 3) := by decide +kernel
theorem dX5_holdsForRows_81 : decode cX5_holdsForRows 81 = .ok (.iconst 0, 1) := by decide +kernel
theorem dX5_holdsForRows_82 : decode cX5_holdsForRows 82 = .ok (.ireturn, 1) := by decide +kernel
set_option maxRecDepth 20000 in
theorem ggX5_openReader_X4_copyTo : GoodIn wsX5_openReader wsX4_copyTo := goodIn_ca (goodIn_r _ [9, 10, 11, 37, 38] (by decide +kernel) (by decide +kernel)) (goodIn_sub (fun _ h => List.mem_cons_of_mem _ (List.mem_append_right _ h)) (by decide +kernel))
set_option maxRecDepth 20000 in
theorem gX5_openReader_X4_copyTo : GoodIn wsX5_openReader (wsV RX5 88 RX4 yX4_copyTo wsX4_copyTo) := goodIn_app (goodIn_of _ (by decide +kernel)) ggX5_openReader_X4_copyTo
set_option maxRecDepth 20000 in
theorem ggX5_openReader_X2_openOn : GoodIn wsX5_openReader wsX2_openOn := goodIn_r _ [16, 17, 18, 19, 20, 21, 22, 23, 24, 25, 26, 27, 39, 40, 41, 42, 43, 44, 36] (by decide +kernel) (by decide +kernel)
set_option maxRecDepth 20000 in
theorem gX5_openReader_X2_openOn : GoodIn wsX5_openReader (wsV RX5 96 RX2 yX2_openOn wsX2_openOn) := goodIn_app (goodIn_of _ (by decide +kernel)) ggX5_openReader_X2_openOn
theorem dX5_openReader_0 : decode cX5_openReader 0 = .ok (.aload_n 1, 1) := by decide +kernel
theorem dX5_openReader_1 : decode cX5_openReader 1 = .ok (.aload_n 0, 1) := by decide +kernel
theorem dX5_openReader_2 : decode cX5_openReader 2 = .ok (.getfield 14, 3) := by decide +kernel
theorem dX5_openReader_5 : decode cX5_openReader 5 = .ok (.getfield 85, 3) := by decide +kernel
theorem dX5_openReader_8 : decode cX5_openReader 8 = .ok (.invokevirtual 88, 3) := by decide +kernel
theorem dX5_openReader_11 : decode cX5_openReader 11 = .ok (.aload_n 0, 1) := by decide +kernel
theorem dX5_openReader_12 : decode cX5_openReader 12 = .ok (.getfield 27, 3) := by decide +kernel
theorem dX5_openReader_15 : decode cX5_openReader 15 = .ok (.aload_n 0, 1) := by decide +kernel
theorem dX5_openReader_16 : decode cX5_openReader 16 = .ok (.getfield 14, 3) := by decide +kernel
theorem dX5_openReader_19 : decode cX5_openReader 19 = .ok (.iconst 0, 1) := by decide +kernel
theorem dX5_openReader_20 : decode cX5_openReader 20 = .ok (.aload_n 1, 1) := by decide +kernel
theorem dX5_openReader_21 : decode cX5_openReader 21 = .ok (.getfield 92, 3) := by decide +kernel
theorem dX5_openReader_24 : decode cX5_openReader 24 = .ok (.invokevirtual 96, 3) := by decide +kernel
theorem dX5_openReader_27 : decode cX5_openReader 27 = .ok (.return_, 1) := by decide +kernel
set_option maxRecDepth 20000 in
theorem ggX5_isReadByOnes_X5_openReader : GoodIn wsX5_isReadByOnes wsX5_openReader := goodIn_ca (goodIn_r _ [8, 9, 10, 2, 1, 11, 12, 13, 14, 15, 16, 17, 18, 19, 20, 21, 22, 23, 24, 25, 26, 27, 28, 29, 30, 31, 32, 33, 40, 41, 42, 43, 44, 45, 46, 47, 48, 38, 39, 49, 50, 51, 52, 53, 54] (by decide +kernel) (by decide +kernel)) (goodIn_sub (fun _ h => List.mem_cons_of_mem _ (List.mem_append_right _ h)) (by decide +kernel))
set_option maxRecDepth 20000 in
theorem gX5_isReadByOnes_X5_openReader : GoodIn wsX5_isReadByOnes (wsV RX5 100 RX5 yX5_openReader wsX5_openReader) := goodIn_app (goodIn_of _ (by decide +kernel)) ggX5_isReadByOnes_X5_openReader
set_option maxRecDepth 20000 in
theorem ggX5_isReadByOnes_X2_readOne : GoodIn wsX5_isReadByOnes wsX2_readOne := goodIn_ca (goodIn_r _ [37, 24, 30, 23, 25, 49, 50, 51, 52, 53, 54, 48] (by decide +kernel) (by decide +kernel)) (goodIn_sub (fun _ h => List.mem_cons_of_mem _ (List.mem_append_right _ h)) (by decide +kernel))
set_option maxRecDepth 20000 in
theorem gX5_isReadByOnes_X2_readOne : GoodIn wsX5_isReadByOnes (wsV RX5 104 RX2 yX2_readOne wsX2_readOne) := goodIn_app (goodIn_of _ (by decide +kernel)) ggX5_isReadByOnes_X2_readOne
theorem dX5_isReadByOnes_0 : decode cX5_isReadByOnes 0 = .ok (.aload_n 0, 1) := by decide +kernel
theorem dX5_isReadByOnes_1 : decode cX5_isReadByOnes 1 = .ok (.aload_n 1, 1) := by decide +kernel
theorem dX5_isReadByOnes_2 : decode cX5_isReadByOnes 2 = .ok (.invokevirtual 100, 3) := by decide +kernel
theorem dX5_isReadByOnes_5 : decode cX5_isReadByOnes 5 = .ok (.iconst 0, 1) := by decide +kernel
theorem dX5_isReadByOnes_6 : decode cX5_isReadByOnes 6 = .ok (.istore_n 2, 1) := by decide +kernel
theorem dX5_isReadByOnes_7 : decode cX5_isReadByOnes 7 = .ok (.iload_n 2, 1) := by decide +kernel
theorem dX5_isReadByOnes_8 : decode cX5_isReadByOnes 8 = .ok (.aload_n 1, 1) := by decide +kernel
theorem dX5_isReadByOnes_9 : decode cX5_isReadByOnes 9 = .ok (.getfield 92, 3) := by decide +kernel
theorem dX5_isReadByOnes_12 : decode cX5_isReadByOnes 12 = .ok (.if_icmp .ge 27, 3) := by decide +kernel
theorem dX5_isReadByOnes_15 : decode cX5_isReadByOnes 15 = .ok (.aload_n 0, 1) := by decide +kernel
theorem dX5_isReadByOnes_16 : decode cX5_isReadByOnes 16 = .ok (.getfield 27, 3) := by decide +kernel
theorem dX5_isReadByOnes_19 : decode cX5_isReadByOnes 19 = .ok (.invokevirtual 104, 3) := by decide +kernel
theorem dX5_isReadByOnes_22 : decode cX5_isReadByOnes 22 = .ok (.aload_n 1, 1) := by decide +kernel
theorem dX5_isReadByOnes_23 : decode cX5_isReadByOnes 23 = .ok (.getfield 108, 3) := by decide +kernel
theorem dX5_isReadByOnes_26 : decode cX5_isReadByOnes 26 = .ok (.iload_n 2, 1) := by decide +kernel
theorem dX5_isReadByOnes_27 : decode cX5_isReadByOnes 27 = .ok (.caload, 1) := by decide +kernel
theorem dX5_isReadByOnes_28 : decode cX5_isReadByOnes 28 = .ok (.if_icmp .eq 5, 3) := by decide +kernel
theorem dX5_isReadByOnes_31 : decode cX5_isReadByOnes 31 = .ok (.iconst 0, 1) := by decide +kernel
theorem dX5_isReadByOnes_32 : decode cX5_isReadByOnes 32 = .ok (.ireturn, 1) := by decide +kernel
theorem dX5_isReadByOnes_33 : decode cX5_isReadByOnes 33 = .ok (.iinc 2 1, 3) := by decide +kernel
theorem dX5_isReadByOnes_36 : decode cX5_isReadByOnes 36 = .ok (.goto (-29), 3) := by decide +kernel
theorem dX5_isReadByOnes_39 : decode cX5_isReadByOnes 39 = .ok (.aload_n 0, 1) := by decide +kernel
theorem dX5_isReadByOnes_40 : decode cX5_isReadByOnes 40 = .ok (.getfield 27, 3) := by decide +kernel
theorem dX5_isReadByOnes_43 : decode cX5_isReadByOnes 43 = .ok (.invokevirtual 104, 3) := by decide +kernel
theorem dX5_isReadByOnes_46 : decode cX5_isReadByOnes 46 = .ok (.iconst (-1), 1) := by decide +kernel
theorem dX5_isReadByOnes_47 : decode cX5_isReadByOnes 47 = .ok (.if_icmp .ne 7, 3) := by decide +kernel
theorem dX5_isReadByOnes_50 : decode cX5_isReadByOnes 50 = .ok (.iconst 1, 1) := by decide +kernel
theorem dX5_isReadByOnes_51 : decode cX5_isReadByOnes 51 = .ok (.goto 4, 3) := by decide +kernel
theorem dX5_isReadByOnes_54 : decode cX5_isReadByOnes 54 = .ok (.iconst 0, 1) := by decide +kernel
theorem dX5_isReadByOnes_55 : decode cX5_isReadByOnes 55 = .ok (.ireturn, 1) := by decide +kernel
set_option maxRecDepth 20000 in
theorem ggX5_isReadByThrees_X5_openReader : GoodIn wsX5_isReadByThrees wsX5_openReader := goodIn_ca (goodIn_r _ [13, 14, 15, 6, 1, 16, 17, 18, 19, 20, 21, 22, 23, 24, 25, 26, 27, 28, 29, 30, 31, 3, 4, 5, 32, 33, 34, 35, 42, 43, 44, 45, 46, 47, 48, 49, 50, 40, 41, 51, 52, 53, 54, 55, 56] (by decide +kernel) (by decide +kernel)) (goodIn_sub (fun _ h => List.mem_cons_of_mem _ (List.mem_append_right _ h)) (by decide +kernel))
set_option maxRecDepth 20000 in
theorem gX5_isReadByThrees_X5_openReader : GoodIn wsX5_isReadByThrees (wsV RX5 100 RX5 yX5_openReader wsX5_openReader) := goodIn_app (goodIn_of _ (by decide +kernel)) ggX5_isReadByThrees_X5_openReader
set_option maxRecDepth 20000 in
theorem ggX5_isReadByThrees_X2_readSome : GoodIn wsX5_isReadByThrees wsX2_readSome := goodIn_ca (goodIn_r _ [39, 29, 32, 31, 3, 4, 5, 28, 30, 51, 52, 53, 54, 55, 56, 50] (by decide +kernel) (by decide +kernel)) (goodIn_sub (fun _ h => List.mem_cons_of_mem _ (List.mem_append_right _ h)) (by decide +kernel))
set_option maxRecDepth 20000 in
theorem gX5_isReadByThrees_X2_readSome : GoodIn wsX5_isReadByThrees (wsV RX5 115 RX2 yX2_readSome wsX2_readSome) := goodIn_app (goodIn_of _ (by decide +kernel)) ggX5_isReadByThrees_X2_readSome
theorem dX5_isReadByThrees_0 : decode cX5_isReadByThrees 0 = .ok (.aload_n 0, 1) := by decide +kernel
theorem dX5_isReadByThrees_1 : decode cX5_isReadByThrees 1 = .ok (.aload_n 1, 1) := by decide +kernel
theorem dX5_isReadByThrees_2 : decode cX5_isReadByThrees 2 = .ok (.invokevirtual 100, 3) := by decide +kernel
theorem dX5_isReadByThrees_5 : decode cX5_isReadByThrees 5 = .ok (.iconst 0, 1) := by decide +kernel
theorem dX5_isReadByThrees_6 : decode cX5_isReadByThrees 6 = .ok (.istore_n 2, 1) := by decide +kernel
theorem dX5_isReadByThrees_7 : decode cX5_isReadByThrees 7 = .ok (.iload_n 2, 1) := by decide +kernel
theorem dX5_isReadByThrees_8 : decode cX5_isReadByThrees 8 = .ok (.aload_n 1, 1) := by decide +kernel
theorem dX5_isReadByThrees_9 : decode cX5_isReadByThrees 9 = .ok (.getfield 92, 3) := by decide +kernel
theorem dX5_isReadByThrees_12 : decode cX5_isReadByThrees 12 = .ok (.if_icmp .ge 75, 3) := by decide +kernel
theorem dX5_isReadByThrees_15 : decode cX5_isReadByThrees 15 = .ok (.iconst 3, 1) := by decide +kernel
theorem dX5_isReadByThrees_16 : decode cX5_isReadByThrees 16 = .ok (.aload_n 1, 1) := by decide +kernel
theorem dX5_isReadByThrees_17 : decode cX5_isReadByThrees 17 = .ok (.getfield 92, 3) := by decide +kernel
theorem dX5_isReadByThrees_20 : decode cX5_isReadByThrees 20 = .ok (.iload_n 2, 1) := by decide +kernel
theorem dX5_isReadByThrees_21 : decode cX5_isReadByThrees 21 = .ok (.isub, 1) := by decide +kernel
theorem dX5_isReadByThrees_22 : decode cX5_isReadByThrees 22 = .ok (.invokestatic 109, 3) := by decide +kernel
theorem dX5_isReadByThrees_25 : decode cX5_isReadByThrees 25 = .ok (.istore_n 3, 1) := by decide +kernel
theorem dX5_isReadByThrees_26 : decode cX5_isReadByThrees 26 = .ok (.aload_n 0, 1) := by decide +kernel
theorem dX5_isReadByThrees_27 : decode cX5_isReadByThrees 27 = .ok (.getfield 27, 3) := by decide +kernel
theorem dX5_isReadByThrees_30 : decode cX5_isReadByThrees 30 = .ok (.aload_n 0, 1) := by decide +kernel
theorem dX5_isReadByThrees_31 : decode cX5_isReadByThrees 31 = .ok (.getfield 20, 3) := by decide +kernel
theorem dX5_isReadByThrees_34 : decode cX5_isReadByThrees 34 = .ok (.iconst 0, 1) := by decide +kernel
theorem dX5_isReadByThrees_35 : decode cX5_isReadByThrees 35 = .ok (.iconst 3, 1) := by decide +kernel
theorem dX5_isReadByThrees_36 : decode cX5_isReadByThrees 36 = .ok (.invokevirtual 115, 3) := by decide +kernel
theorem dX5_isReadByThrees_39 : decode cX5_isReadByThrees 39 = .ok (.iload_n 3, 1) := by decide +kernel
theorem dX5_isReadByThrees_40 : decode cX5_isReadByThrees 40 = .ok (.if_icmp .eq 5, 3) := by decide +kernel
theorem dX5_isReadByThrees_43 : decode cX5_isReadByThrees 43 = .ok (.iconst 0, 1) := by decide +kernel
theorem dX5_isReadByThrees_44 : decode cX5_isReadByThrees 44 = .ok (.ireturn, 1) := by decide +kernel
theorem dX5_isReadByThrees_45 : decode cX5_isReadByThrees 45 = .ok (.iconst 0, 1) := by decide +kernel
theorem dX5_isReadByThrees_46 : decode cX5_isReadByThrees 46 = .ok (.istore 4, 2) := by decide +kernel
theorem dX5_isReadByThrees_48 : decode cX5_isReadByThrees 48 = .ok (.iload 4, 2) := by decide +kernel
theorem dX5_isReadByThrees_50 : decode cX5_isReadByThrees 50 = .ok (.iload_n 3, 1) := by decide +kernel
theorem dX5_isReadByThrees_51 : decode cX5_isReadByThrees 51 = .ok (.if_icmp .ge 30, 3) := by decide +kernel
theorem dX5_isReadByThrees_54 : decode cX5_isReadByThrees 54 = .ok (.aload_n 0, 1) := by decide +kernel
theorem dX5_isReadByThrees_55 : decode cX5_isReadByThrees 55 = .ok (.getfield 20, 3) := by decide +kernel
theorem dX5_isReadByThrees_58 : decode cX5_isReadByThrees 58 = .ok (.iload 4, 2) := by decide +kernel
theorem dX5_isReadByThrees_60 : decode cX5_isReadByThrees 60 = .ok (.caload, 1) := by decide +kernel
theorem dX5_isReadByThrees_61 : decode cX5_isReadByThrees 61 = .ok (.aload_n 1, 1) := by decide +kernel
theorem dX5_isReadByThrees_62 : decode cX5_isReadByThrees 62 = .ok (.getfield 108, 3) := by decide +kernel
theorem dX5_isReadByThrees_65 : decode cX5_isReadByThrees 65 = .ok (.iload_n 2, 1) := by decide +kernel
theorem dX5_isReadByThrees_66 : decode cX5_isReadByThrees 66 = .ok (.iload 4, 2) := by decide +kernel
theorem dX5_isReadByThrees_68 : decode cX5_isReadByThrees 68 = .ok (.iadd, 1) := by decide +kernel
theorem dX5_isReadByThrees_69 : decode cX5_isReadByThrees 69 = .ok (.caload, 1) := by decide +kernel
theorem dX5_isReadByThrees_70 : decode cX5_isReadByThrees 70 = .ok (.if_icmp .eq 5, 3) := by decide +kernel
theorem dX5_isReadByThrees_73 : decode cX5_isReadByThrees 73 = .ok (.iconst 0, 1) := by decide +kernel
theorem dX5_isReadByThrees_74 : decode cX5_isReadByThrees 74 = .ok (.ireturn, 1) := by decide +kernel
theorem dX5_isReadByThrees_75 : decode cX5_isReadByThrees 75 = .ok (.iinc 4 1, 3) := by decide +kernel
theorem dX5_isReadByThrees_78 : decode cX5_isReadByThrees 78 = .ok (.goto (-30), 3) := by decide +kernel
theorem dX5_isReadByThrees_81 : decode cX5_isReadByThrees 81 = .ok (.iinc 2 3, 3) := by decide +kernel
theorem dX5_isReadByThrees_84 : decode cX5_isReadByThrees 84 = .ok (.goto (-77), 3) := by decide +kernel
theorem dX5_isReadByThrees_87 : decode cX5_isReadByThrees 87 = .ok (.aload_n 0, 1) := by decide +kernel
theorem dX5_isReadByThrees_88 : decode cX5_isReadByThrees 88 = .ok (.getfield 27, 3) := by decide +kernel
theorem dX5_isReadByThrees_91 : decode cX5_isReadByThrees 91 = .ok (.aload_n 0, 1) := by decide +kernel
theorem dX5_isReadByThrees_92 : decode cX5_isReadByThrees 92 = .ok (.getfield 20, 3) := by decide +kernel
theorem dX5_isReadByThrees_95 : decode cX5_isReadByThrees 95 = .ok (.iconst 0, 1) := by decide +kernel
theorem dX5_isReadByThrees_96 : decode cX5_isReadByThrees 96 = .ok (.iconst 3, 1) := by decide +kernel
theorem dX5_isReadByThrees_97 : decode cX5_isReadByThrees 97 = .ok (.invokevirtual 115, 3) := by decide +kernel
theorem dX5_isReadByThrees_100 : decode cX5_isReadByThrees 100 = .ok (.iconst (-1), 1) := by decide +kernel
theorem dX5_isReadByThrees_101 : decode cX5_isReadByThrees 101 = .ok (.if_icmp .ne 7, 3) := by decide +kernel
theorem dX5_isReadByThrees_104 : decode cX5_isReadByThrees 104 = .ok (.iconst 1, 1) := by decide +kernel
theorem dX5_isReadByThrees_105 : decode cX5_isReadByThrees 105 = .ok (.goto 4, 3) := by decide +kernel
theorem dX5_isReadByThrees_108 : decode cX5_isReadByThrees 108 = .ok (.iconst 0, 1) := by decide +kernel
theorem dX5_isReadByThrees_109 : decode cX5_isReadByThrees 109 = .ok (.ireturn, 1) := by decide +kernel
set_option maxRecDepth 20000 in
theorem ggX5_isPoured_X4_giveUpAll : GoodIn wsX5_isPoured wsX4_giveUpAll := goodIn_r _ [9, 10, 28, 29] (by decide +kernel) (by decide +kernel)
set_option maxRecDepth 20000 in
theorem gX5_isPoured_X4_giveUpAll : GoodIn wsX5_isPoured (wsV RX5 119 RX4 yX4_giveUpAll wsX4_giveUpAll) := goodIn_app (goodIn_of _ (by decide +kernel)) ggX5_isPoured_X4_giveUpAll
set_option maxRecDepth 20000 in
theorem ggX5_isPoured_X4_addAll : GoodIn wsX5_isPoured wsX4_addAll := goodIn_ca (goodIn_r _ [14, 15, 10, 28, 29] (by decide +kernel) (by decide +kernel)) (goodIn_sub (fun _ h => List.mem_cons_of_mem _ (List.mem_append_right _ h)) (by decide +kernel))
set_option maxRecDepth 20000 in
theorem gX5_isPoured_X4_addAll : GoodIn wsX5_isPoured (wsV RX5 122 RX4 yX4_addAll wsX4_addAll) := goodIn_app (goodIn_of _ (by decide +kernel)) ggX5_isPoured_X4_addAll
set_option maxRecDepth 20000 in
theorem ggX5_isPoured_X4_hasSameAs : GoodIn wsX5_isPoured wsX4_hasSameAs := goodIn_ca (goodIn_r _ [19, 10, 15, 28, 29] (by decide +kernel) (by decide +kernel)) (goodIn_sub (fun _ h => List.mem_cons_of_mem _ (List.mem_append_right _ h)) (by decide +kernel))
set_option maxRecDepth 20000 in
theorem gX5_isPoured_X4_hasSameAs : GoodIn wsX5_isPoured (wsV RX5 126 RX4 yX4_hasSameAs wsX4_hasSameAs) := goodIn_app (goodIn_of _ (by decide +kernel)) ggX5_isPoured_X4_hasSameAs
theorem dX5_isPoured_0 : decode cX5_isPoured 0 = .ok (.aload_n 0, 1) := by decide +kernel
theorem dX5_isPoured_1 : decode cX5_isPoured 1 = .ok (.getfield 38, 3) := by decide +kernel
theorem dX5_isPoured_4 : decode cX5_isPoured 4 = .ok (.invokevirtual 119, 3) := by decide +kernel
theorem dX5_isPoured_7 : decode cX5_isPoured 7 = .ok (.pop, 1) := by decide +kernel
theorem dX5_isPoured_8 : decode cX5_isPoured 8 = .ok (.aload_n 0, 1) := by decide +kernel
theorem dX5_isPoured_9 : decode cX5_isPoured 9 = .ok (.getfield 38, 3) := by decide +kernel
theorem dX5_isPoured_12 : decode cX5_isPoured 12 = .ok (.aload_n 1, 1) := by decide +kernel
theorem dX5_isPoured_13 : decode cX5_isPoured 13 = .ok (.getfield 108, 3) := by decide +kernel
theorem dX5_isPoured_16 : decode cX5_isPoured 16 = .ok (.iconst 0, 1) := by decide +kernel
theorem dX5_isPoured_17 : decode cX5_isPoured 17 = .ok (.aload_n 1, 1) := by decide +kernel
theorem dX5_isPoured_18 : decode cX5_isPoured 18 = .ok (.getfield 92, 3) := by decide +kernel
theorem dX5_isPoured_21 : decode cX5_isPoured 21 = .ok (.invokevirtual 122, 3) := by decide +kernel
theorem dX5_isPoured_24 : decode cX5_isPoured 24 = .ok (.aload_n 0, 1) := by decide +kernel
theorem dX5_isPoured_25 : decode cX5_isPoured 25 = .ok (.getfield 34, 3) := by decide +kernel
theorem dX5_isPoured_28 : decode cX5_isPoured 28 = .ok (.invokevirtual 119, 3) := by decide +kernel
theorem dX5_isPoured_31 : decode cX5_isPoured 31 = .ok (.pop, 1) := by decide +kernel
theorem dX5_isPoured_32 : decode cX5_isPoured 32 = .ok (.aload_n 0, 1) := by decide +kernel
theorem dX5_isPoured_33 : decode cX5_isPoured 33 = .ok (.getfield 34, 3) := by decide +kernel
theorem dX5_isPoured_36 : decode cX5_isPoured 36 = .ok (.aload_n 0, 1) := by decide +kernel
theorem dX5_isPoured_37 : decode cX5_isPoured 37 = .ok (.getfield 38, 3) := by decide +kernel
theorem dX5_isPoured_40 : decode cX5_isPoured 40 = .ok (.getfield 108, 3) := by decide +kernel
theorem dX5_isPoured_43 : decode cX5_isPoured 43 = .ok (.iconst 0, 1) := by decide +kernel
theorem dX5_isPoured_44 : decode cX5_isPoured 44 = .ok (.aload_n 0, 1) := by decide +kernel
theorem dX5_isPoured_45 : decode cX5_isPoured 45 = .ok (.getfield 38, 3) := by decide +kernel
theorem dX5_isPoured_48 : decode cX5_isPoured 48 = .ok (.getfield 92, 3) := by decide +kernel
theorem dX5_isPoured_51 : decode cX5_isPoured 51 = .ok (.invokevirtual 122, 3) := by decide +kernel
theorem dX5_isPoured_54 : decode cX5_isPoured 54 = .ok (.aload_n 0, 1) := by decide +kernel
theorem dX5_isPoured_55 : decode cX5_isPoured 55 = .ok (.getfield 38, 3) := by decide +kernel
theorem dX5_isPoured_58 : decode cX5_isPoured 58 = .ok (.aload_n 1, 1) := by decide +kernel
theorem dX5_isPoured_59 : decode cX5_isPoured 59 = .ok (.invokevirtual 126, 3) := by decide +kernel
theorem dX5_isPoured_62 : decode cX5_isPoured 62 = .ok (.ifCond .eq 18, 3) := by decide +kernel
theorem dX5_isPoured_65 : decode cX5_isPoured 65 = .ok (.aload_n 0, 1) := by decide +kernel
theorem dX5_isPoured_66 : decode cX5_isPoured 66 = .ok (.getfield 34, 3) := by decide +kernel
theorem dX5_isPoured_69 : decode cX5_isPoured 69 = .ok (.aload_n 1, 1) := by decide +kernel
theorem dX5_isPoured_70 : decode cX5_isPoured 70 = .ok (.invokevirtual 126, 3) := by decide +kernel
theorem dX5_isPoured_73 : decode cX5_isPoured 73 = .ok (.ifCond .eq 7, 3) := by decide +kernel
theorem dX5_isPoured_76 : decode cX5_isPoured 76 = .ok (.iconst 1, 1) := by decide +kernel
theorem dX5_isPoured_77 : decode cX5_isPoured 77 = .ok (.goto 4, 3) := by decide +kernel
theorem dX5_isPoured_80 : decode cX5_isPoured 80 = .ok (.iconst 0, 1) := by decide +kernel
theorem dX5_isPoured_81 : decode cX5_isPoured 81 = .ok (.ireturn, 1) := by decide +kernel
theorem dX5_putTogether_0 : decode cX5_putTogether 0 = .ok (.iconst 0, 1) := by decide +kernel
theorem dX5_putTogether_1 : decode cX5_putTogether 1 = .ok (.istore_n 3, 1) := by decide +kernel
theorem dX5_putTogether_2 : decode cX5_putTogether 2 = .ok (.iload_n 3, 1) := by decide +kernel
theorem dX5_putTogether_3 : decode cX5_putTogether 3 = .ok (.aload_n 1, 1) := by decide +kernel
theorem dX5_putTogether_4 : decode cX5_putTogether 4 = .ok (.arraylength, 1) := by decide +kernel
theorem dX5_putTogether_5 : decode cX5_putTogether 5 = .ok (.if_icmp .ge 20, 3) := by decide +kernel
theorem dX5_putTogether_8 : decode cX5_putTogether 8 = .ok (.aload_n 0, 1) := by decide +kernel
theorem dX5_putTogether_9 : decode cX5_putTogether 9 = .ok (.getfield 41, 3) := by decide +kernel
theorem dX5_putTogether_12 : decode cX5_putTogether 12 = .ok (.iload_n 2, 1) := by decide +kernel
theorem dX5_putTogether_13 : decode cX5_putTogether 13 = .ok (.iload_n 3, 1) := by decide +kernel
theorem dX5_putTogether_14 : decode cX5_putTogether 14 = .ok (.iadd, 1) := by decide +kernel
theorem dX5_putTogether_15 : decode cX5_putTogether 15 = .ok (.aload_n 1, 1) := by decide +kernel
theorem dX5_putTogether_16 : decode cX5_putTogether 16 = .ok (.iload_n 3, 1) := by decide +kernel
theorem dX5_putTogether_17 : decode cX5_putTogether 17 = .ok (.baload, 1) := by decide +kernel
theorem dX5_putTogether_18 : decode cX5_putTogether 18 = .ok (.bastore, 1) := by decide +kernel
theorem dX5_putTogether_19 : decode cX5_putTogether 19 = .ok (.iinc 3 1, 3) := by decide +kernel
theorem dX5_putTogether_22 : decode cX5_putTogether 22 = .ok (.goto (-20), 3) := by decide +kernel
theorem dX5_putTogether_25 : decode cX5_putTogether 25 = .ok (.iload_n 2, 1) := by decide +kernel
theorem dX5_putTogether_26 : decode cX5_putTogether 26 = .ok (.aload_n 1, 1) := by decide +kernel
theorem dX5_putTogether_27 : decode cX5_putTogether 27 = .ok (.arraylength, 1) := by decide +kernel
theorem dX5_putTogether_28 : decode cX5_putTogether 28 = .ok (.iadd, 1) := by decide +kernel
theorem dX5_putTogether_29 : decode cX5_putTogether 29 = .ok (.ireturn, 1) := by decide +kernel
set_option maxRecDepth 20000 in
theorem ggX5_givesOnes_X1_readOne : GoodIn wsX5_givesOnes wsX1_readOne := goodIn_ca (goodIn_r _ [7, 8, 9, 10, 11, 12, 13, 14, 15, 6, 16, 17, 26, 27, 28, 29, 30, 31, 32] (by decide +kernel) (by decide +kernel)) (goodIn_sub (fun _ h => List.mem_cons_of_mem _ (List.mem_append_right _ h)) (by decide +kernel))
set_option maxRecDepth 20000 in
theorem gX5_givesOnes_X1_readOne : GoodIn wsX5_givesOnes (wsV RX5 129 RX1 yX1_readOne wsX1_readOne) := goodIn_app (goodIn_of _ (by decide +kernel)) ggX5_givesOnes_X1_readOne
theorem dX5_givesOnes_0 : decode cX5_givesOnes 0 = .ok (.iconst 0, 1) := by decide +kernel
theorem dX5_givesOnes_1 : decode cX5_givesOnes 1 = .ok (.istore_n 2, 1) := by decide +kernel
theorem dX5_givesOnes_2 : decode cX5_givesOnes 2 = .ok (.iload_n 2, 1) := by decide +kernel
theorem dX5_givesOnes_3 : decode cX5_givesOnes 3 = .ok (.iload_n 1, 1) := by decide +kernel
theorem dX5_givesOnes_4 : decode cX5_givesOnes 4 = .ok (.if_icmp .ge 31, 3) := by decide +kernel
theorem dX5_givesOnes_7 : decode cX5_givesOnes 7 = .ok (.aload_n 0, 1) := by decide +kernel
theorem dX5_givesOnes_8 : decode cX5_givesOnes 8 = .ok (.getfield 51, 3) := by decide +kernel
theorem dX5_givesOnes_11 : decode cX5_givesOnes 11 = .ok (.invokevirtual 129, 3) := by decide +kernel
theorem dX5_givesOnes_14 : decode cX5_givesOnes 14 = .ok (.aload_n 0, 1) := by decide +kernel
theorem dX5_givesOnes_15 : decode cX5_givesOnes 15 = .ok (.getfield 41, 3) := by decide +kernel
theorem dX5_givesOnes_18 : decode cX5_givesOnes 18 = .ok (.iload_n 2, 1) := by decide +kernel
theorem dX5_givesOnes_19 : decode cX5_givesOnes 19 = .ok (.baload, 1) := by decide +kernel
theorem dX5_givesOnes_20 : decode cX5_givesOnes 20 = .ok (.sipush 255, 3) := by decide +kernel
theorem dX5_givesOnes_23 : decode cX5_givesOnes 23 = .ok (.iand, 1) := by decide +kernel
theorem dX5_givesOnes_24 : decode cX5_givesOnes 24 = .ok (.if_icmp .eq 5, 3) := by decide +kernel
theorem dX5_givesOnes_27 : decode cX5_givesOnes 27 = .ok (.iconst 0, 1) := by decide +kernel
theorem dX5_givesOnes_28 : decode cX5_givesOnes 28 = .ok (.ireturn, 1) := by decide +kernel
theorem dX5_givesOnes_29 : decode cX5_givesOnes 29 = .ok (.iinc 2 1, 3) := by decide +kernel
theorem dX5_givesOnes_32 : decode cX5_givesOnes 32 = .ok (.goto (-30), 3) := by decide +kernel
theorem dX5_givesOnes_35 : decode cX5_givesOnes 35 = .ok (.aload_n 0, 1) := by decide +kernel
theorem dX5_givesOnes_36 : decode cX5_givesOnes 36 = .ok (.getfield 51, 3) := by decide +kernel
theorem dX5_givesOnes_39 : decode cX5_givesOnes 39 = .ok (.invokevirtual 129, 3) := by decide +kernel
theorem dX5_givesOnes_42 : decode cX5_givesOnes 42 = .ok (.iconst (-1), 1) := by decide +kernel
theorem dX5_givesOnes_43 : decode cX5_givesOnes 43 = .ok (.if_icmp .ne 7, 3) := by decide +kernel
theorem dX5_givesOnes_46 : decode cX5_givesOnes 46 = .ok (.iconst 1, 1) := by decide +kernel
theorem dX5_givesOnes_47 : decode cX5_givesOnes 47 = .ok (.goto 4, 3) := by decide +kernel
theorem dX5_givesOnes_50 : decode cX5_givesOnes 50 = .ok (.iconst 0, 1) := by decide +kernel
theorem dX5_givesOnes_51 : decode cX5_givesOnes 51 = .ok (.ireturn, 1) := by decide +kernel
set_option maxRecDepth 20000 in
theorem ggX5_givesTwos_X1_readSome : GoodIn wsX5_givesTwos wsX1_readSome := goodIn_ca (goodIn_r _ [8, 9, 10, 11, 12, 13, 14, 15, 16, 17, 18, 19, 20, 7, 21, 22, 31, 32, 33, 34, 35, 36, 37] (by decide +kernel) (by decide +kernel)) (goodIn_sub (fun _ h => List.mem_cons_of_mem _ (List.mem_append_right _ h)) (by decide +kernel))
set_option maxRecDepth 20000 in
theorem gX5_givesTwos_X1_readSome : GoodIn wsX5_givesTwos (wsV RX5 130 RX1 yX1_readSome wsX1_readSome) := goodIn_app (goodIn_of _ (by decide +kernel)) ggX5_givesTwos_X1_readSome
theorem dX5_givesTwos_0 : decode cX5_givesTwos 0 = .ok (.iconst 0, 1) := by decide +kernel
theorem dX5_givesTwos_1 : decode cX5_givesTwos 1 = .ok (.istore_n 2, 1) := by decide +kernel
theorem dX5_givesTwos_2 : decode cX5_givesTwos 2 = .ok (.iconst 0, 1) := by decide +kernel
theorem dX5_givesTwos_3 : decode cX5_givesTwos 3 = .ok (.istore_n 3, 1) := by decide +kernel
theorem dX5_givesTwos_4 : decode cX5_givesTwos 4 = .ok (.iload_n 3, 1) := by decide +kernel
theorem dX5_givesTwos_5 : decode cX5_givesTwos 5 = .ok (.iload_n 1, 1) := by decide +kernel
theorem dX5_givesTwos_6 : decode cX5_givesTwos 6 = .ok (.if_icmp .gt 90, 3) := by decide +kernel
theorem dX5_givesTwos_9 : decode cX5_givesTwos 9 = .ok (.aload_n 0, 1) := by decide +kernel
theorem dX5_givesTwos_10 : decode cX5_givesTwos 10 = .ok (.getfield 51, 3) := by decide +kernel
theorem dX5_givesTwos_13 : decode cX5_givesTwos 13 = .ok (.aload_n 0, 1) := by decide +kernel
theorem dX5_givesTwos_14 : decode cX5_givesTwos 14 = .ok (.getfield 45, 3) := by decide +kernel
theorem dX5_givesTwos_17 : decode cX5_givesTwos 17 = .ok (.iconst 0, 1) := by decide +kernel
theorem dX5_givesTwos_18 : decode cX5_givesTwos 18 = .ok (.iconst 2, 1) := by decide +kernel
theorem dX5_givesTwos_19 : decode cX5_givesTwos 19 = .ok (.invokevirtual 130, 3) := by decide +kernel
theorem dX5_givesTwos_22 : decode cX5_givesTwos 22 = .ok (.istore 4, 2) := by decide +kernel
theorem dX5_givesTwos_24 : decode cX5_givesTwos 24 = .ok (.iload 4, 2) := by decide +kernel
theorem dX5_givesTwos_26 : decode cX5_givesTwos 26 = .ok (.ifCond .ge 14, 3) := by decide +kernel
theorem dX5_givesTwos_29 : decode cX5_givesTwos 29 = .ok (.iload_n 2, 1) := by decide +kernel
theorem dX5_givesTwos_30 : decode cX5_givesTwos 30 = .ok (.iload_n 1, 1) := by decide +kernel
theorem dX5_givesTwos_31 : decode cX5_givesTwos 31 = .ok (.if_icmp .ne 7, 3) := by decide +kernel
theorem dX5_givesTwos_34 : decode cX5_givesTwos 34 = .ok (.iconst 1, 1) := by decide +kernel
theorem dX5_givesTwos_35 : decode cX5_givesTwos 35 = .ok (.goto 4, 3) := by decide +kernel
theorem dX5_givesTwos_38 : decode cX5_givesTwos 38 = .ok (.iconst 0, 1) := by decide +kernel
theorem dX5_givesTwos_39 : decode cX5_givesTwos 39 = .ok (.ireturn, 1) := by decide +kernel
theorem dX5_givesTwos_40 : decode cX5_givesTwos 40 = .ok (.iconst 0, 1) := by decide +kernel
theorem dX5_givesTwos_41 : decode cX5_givesTwos 41 = .ok (.istore 5, 2) := by decide +kernel
theorem dX5_givesTwos_43 : decode cX5_givesTwos 43 = .ok (.iload 5, 2) := by decide +kernel
theorem dX5_givesTwos_45 : decode cX5_givesTwos 45 = .ok (.iload 4, 2) := by decide +kernel
theorem dX5_givesTwos_47 : decode cX5_givesTwos 47 = .ok (.if_icmp .ge 38, 3) := by decide +kernel
theorem dX5_givesTwos_50 : decode cX5_givesTwos 50 = .ok (.iload_n 2, 1) := by decide +kernel
theorem dX5_givesTwos_51 : decode cX5_givesTwos 51 = .ok (.iload 5, 2) := by decide +kernel
theorem dX5_givesTwos_53 : decode cX5_givesTwos 53 = .ok (.iadd, 1) := by decide +kernel
theorem dX5_givesTwos_54 : decode cX5_givesTwos 54 = .ok (.iload_n 1, 1) := by decide +kernel
theorem dX5_givesTwos_55 : decode cX5_givesTwos 55 = .ok (.if_icmp .ge 22, 3) := by decide +kernel
theorem dX5_givesTwos_58 : decode cX5_givesTwos 58 = .ok (.aload_n 0, 1) := by decide +kernel
theorem dX5_givesTwos_59 : decode cX5_givesTwos 59 = .ok (.getfield 45, 3) := by decide +kernel
theorem dX5_givesTwos_62 : decode cX5_givesTwos 62 = .ok (.iload 5, 2) := by decide +kernel
theorem dX5_givesTwos_64 : decode cX5_givesTwos 64 = .ok (.baload, 1) := by decide +kernel
theorem dX5_givesTwos_65 : decode cX5_givesTwos 65 = .ok (.aload_n 0, 1) := by decide +kernel
theorem dX5_givesTwos_66 : decode cX5_givesTwos 66 = .ok (.getfield 41, 3) := by decide +kernel
theorem dX5_givesTwos_69 : decode cX5_givesTwos 69 = .ok (.iload_n 2, 1) := by decide +kernel
theorem dX5_givesTwos_70 : decode cX5_givesTwos 70 = .ok (.iload 5, 2) := by decide +kernel
theorem dX5_givesTwos_72 : decode cX5_givesTwos 72 = .ok (.iadd, 1) := by decide +kernel
theorem dX5_givesTwos_73 : decode cX5_givesTwos 73 = .ok (.baload, 1) := by decide +kernel
theorem dX5_givesTwos_74 : decode cX5_givesTwos 74 = .ok (.if_icmp .eq 5, 3) := by decide +kernel
theorem dX5_givesTwos_77 : decode cX5_givesTwos 77 = .ok (.iconst 0, 1) := by decide +kernel
theorem dX5_givesTwos_78 : decode cX5_givesTwos 78 = .ok (.ireturn, 1) := by decide +kernel
theorem dX5_givesTwos_79 : decode cX5_givesTwos 79 = .ok (.iinc 5 1, 3) := by decide +kernel
theorem dX5_givesTwos_82 : decode cX5_givesTwos 82 = .ok (.goto (-39), 3) := by decide +kernel
theorem dX5_givesTwos_85 : decode cX5_givesTwos 85 = .ok (.iload_n 2, 1) := by decide +kernel
theorem dX5_givesTwos_86 : decode cX5_givesTwos 86 = .ok (.iload 4, 2) := by decide +kernel
theorem dX5_givesTwos_88 : decode cX5_givesTwos 88 = .ok (.iadd, 1) := by decide +kernel
theorem dX5_givesTwos_89 : decode cX5_givesTwos 89 = .ok (.istore_n 2, 1) := by decide +kernel
theorem dX5_givesTwos_90 : decode cX5_givesTwos 90 = .ok (.iinc 3 1, 3) := by decide +kernel
theorem dX5_givesTwos_93 : decode cX5_givesTwos 93 = .ok (.goto (-89), 3) := by decide +kernel
theorem dX5_givesTwos_96 : decode cX5_givesTwos 96 = .ok (.iconst 0, 1) := by decide +kernel
theorem dX5_givesTwos_97 : decode cX5_givesTwos 97 = .ok (.ireturn, 1) := by decide +kernel
set_option maxRecDepth 20000 in
theorem ggX6_init_X3_init : GoodIn wsX6_init wsX3_init := goodIn_r _ [31, 32, 2, 3, 33, 34, 79] (by decide +kernel) (by decide +kernel)
set_option maxRecDepth 20000 in
theorem gX6_init_X3_init : GoodIn wsX6_init (wsX3_init) := ggX6_init_X3_init
set_option maxRecDepth 20000 in
theorem ggX6_init_X0_init : GoodIn wsX6_init wsX0_init := goodIn_r _ [37, 38, 2, 3, 39, 40, 80] (by decide +kernel) (by decide +kernel)
set_option maxRecDepth 20000 in
theorem gX6_init_X0_init : GoodIn wsX6_init (wsX0_init) := ggX6_init_X0_init
set_option maxRecDepth 20000 in
theorem ggX6_init_X4_init : GoodIn wsX6_init wsX4_init := goodIn_r _ [42, 43, 2, 3, 33, 44, 81, 82] (by decide +kernel) (by decide +kernel)
set_option maxRecDepth 20000 in
theorem gX6_init_X4_init_n34 : GoodIn wsX6_init (wsX4_init) := ggX6_init_X4_init
set_option maxRecDepth 20000 in
theorem ggX6_init_X2_init : GoodIn wsX6_init wsX2_init := goodIn_r _ [46, 47, 2, 3, 48, 6, 7, 49, 50, 30, 31, 32, 33, 34, 79, 83, 84, 85, 86, 87, 88] (by decide +kernel) (by decide +kernel)
set_option maxRecDepth 20000 in
theorem gX6_init_X2_init_n41 : GoodIn wsX6_init (wsX2_init) := ggX6_init_X2_init
set_option maxRecDepth 20000 in
theorem ggX6_init_X1_init : GoodIn wsX6_init wsX1_init := goodIn_r _ [52, 53, 2, 3, 54, 55, 89, 90, 91, 92, 93, 94] (by decide +kernel) (by decide +kernel)
set_option maxRecDepth 20000 in
theorem gX6_init_X1_init_n48 : GoodIn wsX6_init (wsX1_init) := ggX6_init_X1_init
set_option maxRecDepth 20000 in
theorem ggX6_init_X5_init : GoodIn wsX6_init wsX5_init := goodIn_r _ [57, 58, 2, 3, 59, 6, 7, 60, 33, 61, 62, 19, 20, 63, 64, 15, 16, 65, 66, 39, 67, 68, 69, 23, 24, 70, 71, 30, 31, 32, 34, 45, 46, 47, 48, 49, 50, 41, 42, 43, 44, 51, 52, 53, 54, 55, 79, 95, 96, 97, 98, 99, 100, 101, 102, 83, 84, 85, 86, 87, 88, 81, 82, 89, 90, 91, 92, 93, 94] (by decide +kernel) (by decide +kernel)
set_option maxRecDepth 20000 in
theorem gX6_init_X5_init_n51 : GoodIn wsX6_init (wsX5_init) := ggX6_init_X5_init
theorem dX6_init_0 : decode cX6_init 0 = .ok (.aload_n 0, 1) := by decide +kernel
theorem dX6_init_1 : decode cX6_init 1 = .ok (.invokespecial 1, 3) := by decide +kernel
theorem dX6_init_4 : decode cX6_init 4 = .ok (.aload_n 0, 1) := by decide +kernel
theorem dX6_init_5 : decode cX6_init 5 = .ok (.iconst 4, 1) := by decide +kernel
theorem dX6_init_6 : decode cX6_init 6 = .ok (.anewarray 9, 3) := by decide +kernel
theorem dX6_init_9 : decode cX6_init 9 = .ok (.putfield 11, 3) := by decide +kernel
theorem dX6_init_12 : decode cX6_init 12 = .ok (.iconst 0, 1) := by decide +kernel
theorem dX6_init_13 : decode cX6_init 13 = .ok (.istore_n 1, 1) := by decide +kernel
theorem dX6_init_14 : decode cX6_init 14 = .ok (.iload_n 1, 1) := by decide +kernel
theorem dX6_init_15 : decode cX6_init 15 = .ok (.iconst 4, 1) := by decide +kernel
theorem dX6_init_16 : decode cX6_init 16 = .ok (.if_icmp .ge 23, 3) := by decide +kernel
theorem dX6_init_19 : decode cX6_init 19 = .ok (.aload_n 0, 1) := by decide +kernel
theorem dX6_init_20 : decode cX6_init 20 = .ok (.getfield 11, 3) := by decide +kernel
theorem dX6_init_23 : decode cX6_init 23 = .ok (.iload_n 1, 1) := by decide +kernel
theorem dX6_init_24 : decode cX6_init 24 = .ok (.new 9, 3) := by decide +kernel
theorem dX6_init_27 : decode cX6_init 27 = .ok (.dup, 1) := by decide +kernel
theorem dX6_init_28 : decode cX6_init 28 = .ok (.iconst 0, 1) := by decide +kernel
theorem dX6_init_29 : decode cX6_init 29 = .ok (.invokespecial 15, 3) := by decide +kernel
theorem dX6_init_32 : decode cX6_init 32 = .ok (.aastore, 1) := by decide +kernel
theorem dX6_init_33 : decode cX6_init 33 = .ok (.iinc 1 1, 3) := by decide +kernel
theorem dX6_init_36 : decode cX6_init 36 = .ok (.goto (-22), 3) := by decide +kernel
theorem dX6_init_39 : decode cX6_init 39 = .ok (.aload_n 0, 1) := by decide +kernel
theorem dX6_init_40 : decode cX6_init 40 = .ok (.iconst 4, 1) := by decide +kernel
theorem dX6_init_41 : decode cX6_init 41 = .ok (.anewarray 18, 3) := by decide +kernel
theorem dX6_init_44 : decode cX6_init 44 = .ok (.putfield 20, 3) := by decide +kernel
theorem dX6_init_47 : decode cX6_init 47 = .ok (.iconst 0, 1) := by decide +kernel
theorem dX6_init_48 : decode cX6_init 48 = .ok (.istore_n 1, 1) := by decide +kernel
theorem dX6_init_49 : decode cX6_init 49 = .ok (.iload_n 1, 1) := by decide +kernel
theorem dX6_init_50 : decode cX6_init 50 = .ok (.iconst 4, 1) := by decide +kernel
theorem dX6_init_51 : decode cX6_init 51 = .ok (.if_icmp .ge 23, 3) := by decide +kernel
theorem dX6_init_54 : decode cX6_init 54 = .ok (.aload_n 0, 1) := by decide +kernel
theorem dX6_init_55 : decode cX6_init 55 = .ok (.getfield 20, 3) := by decide +kernel
theorem dX6_init_58 : decode cX6_init 58 = .ok (.iload_n 1, 1) := by decide +kernel
theorem dX6_init_59 : decode cX6_init 59 = .ok (.new 18, 3) := by decide +kernel
theorem dX6_init_62 : decode cX6_init 62 = .ok (.dup, 1) := by decide +kernel
theorem dX6_init_63 : decode cX6_init 63 = .ok (.iconst 0, 1) := by decide +kernel
theorem dX6_init_64 : decode cX6_init 64 = .ok (.invokespecial 24, 3) := by decide +kernel
theorem dX6_init_67 : decode cX6_init 67 = .ok (.aastore, 1) := by decide +kernel
theorem dX6_init_68 : decode cX6_init 68 = .ok (.iinc 1 1, 3) := by decide +kernel
theorem dX6_init_71 : decode cX6_init 71 = .ok (.goto (-22), 3) := by decide +kernel
theorem dX6_init_74 : decode cX6_init 74 = .ok (.aload_n 0, 1) := by decide +kernel
theorem dX6_init_75 : decode cX6_init 75 = .ok (.iconst 3, 1) := by decide +kernel
theorem dX6_init_76 : decode cX6_init 76 = .ok (.anewarray 25, 3) := by decide +kernel
theorem dX6_init_79 : decode cX6_init 79 = .ok (.putfield 27, 3) := by decide +kernel
theorem dX6_init_82 : decode cX6_init 82 = .ok (.aload_n 0, 1) := by decide +kernel
theorem dX6_init_83 : decode cX6_init 83 = .ok (.iconst 3, 1) := by decide +kernel
theorem dX6_init_84 : decode cX6_init 84 = .ok (.anewarray 25, 3) := by decide +kernel
theorem dX6_init_87 : decode cX6_init 87 = .ok (.putfield 31, 3) := by decide +kernel
theorem dX6_init_90 : decode cX6_init 90 = .ok (.iconst 0, 1) := by decide +kernel
theorem dX6_init_91 : decode cX6_init 91 = .ok (.istore_n 1, 1) := by decide +kernel
theorem dX6_init_92 : decode cX6_init 92 = .ok (.iload_n 1, 1) := by decide +kernel
theorem dX6_init_93 : decode cX6_init 93 = .ok (.iconst 3, 1) := by decide +kernel
theorem dX6_init_94 : decode cX6_init 94 = .ok (.if_icmp .ge 35, 3) := by decide +kernel
theorem dX6_init_97 : decode cX6_init 97 = .ok (.aload_n 0, 1) := by decide +kernel
theorem dX6_init_98 : decode cX6_init 98 = .ok (.getfield 27, 3) := by decide +kernel
theorem dX6_init_101 : decode cX6_init 101 = .ok (.iload_n 1, 1) := by decide +kernel
theorem dX6_init_102 : decode cX6_init 102 = .ok (.new 25, 3) := by decide +kernel
theorem dX6_init_105 : decode cX6_init 105 = .ok (.dup, 1) := by decide +kernel
theorem dX6_init_106 : decode cX6_init 106 = .ok (.invokespecial 34, 3) := by decide +kernel
theorem dX6_init_109 : decode cX6_init 109 = .ok (.aastore, 1) := by decide +kernel
theorem dX6_init_110 : decode cX6_init 110 = .ok (.aload_n 0, 1) := by decide +kernel
theorem dX6_init_111 : decode cX6_init 111 = .ok (.getfield 31, 3) := by decide +kernel
theorem dX6_init_114 : decode cX6_init 114 = .ok (.iload_n 1, 1) := by decide +kernel
theorem dX6_init_115 : decode cX6_init 115 = .ok (.new 25, 3) := by decide +kernel
theorem dX6_init_118 : decode cX6_init 118 = .ok (.dup, 1) := by decide +kernel
theorem dX6_init_119 : decode cX6_init 119 = .ok (.invokespecial 34, 3) := by decide +kernel
theorem dX6_init_122 : decode cX6_init 122 = .ok (.aastore, 1) := by decide +kernel
theorem dX6_init_123 : decode cX6_init 123 = .ok (.iinc 1 1, 3) := by decide +kernel
theorem dX6_init_126 : decode cX6_init 126 = .ok (.goto (-34), 3) := by decide +kernel
theorem dX6_init_129 : decode cX6_init 129 = .ok (.aload_n 0, 1) := by decide +kernel
theorem dX6_init_130 : decode cX6_init 130 = .ok (.iconst 3, 1) := by decide +kernel
theorem dX6_init_131 : decode cX6_init 131 = .ok (.anewarray 35, 3) := by decide +kernel
theorem dX6_init_134 : decode cX6_init 134 = .ok (.putfield 37, 3) := by decide +kernel
theorem dX6_init_137 : decode cX6_init 137 = .ok (.iconst 0, 1) := by decide +kernel
theorem dX6_init_138 : decode cX6_init 138 = .ok (.istore_n 1, 1) := by decide +kernel
theorem dX6_init_139 : decode cX6_init 139 = .ok (.iload_n 1, 1) := by decide +kernel
theorem dX6_init_140 : decode cX6_init 140 = .ok (.iconst 3, 1) := by decide +kernel
theorem dX6_init_141 : decode cX6_init 141 = .ok (.if_icmp .ge 22, 3) := by decide +kernel
theorem dX6_init_144 : decode cX6_init 144 = .ok (.aload_n 0, 1) := by decide +kernel
theorem dX6_init_145 : decode cX6_init 145 = .ok (.getfield 37, 3) := by decide +kernel
theorem dX6_init_148 : decode cX6_init 148 = .ok (.iload_n 1, 1) := by decide +kernel
theorem dX6_init_149 : decode cX6_init 149 = .ok (.new 35, 3) := by decide +kernel
theorem dX6_init_152 : decode cX6_init 152 = .ok (.dup, 1) := by decide +kernel
theorem dX6_init_153 : decode cX6_init 153 = .ok (.invokespecial 41, 3) := by decide +kernel
theorem dX6_init_156 : decode cX6_init 156 = .ok (.aastore, 1) := by decide +kernel
theorem dX6_init_157 : decode cX6_init 157 = .ok (.iinc 1 1, 3) := by decide +kernel
theorem dX6_init_160 : decode cX6_init 160 = .ok (.goto (-21), 3) := by decide +kernel
theorem dX6_init_163 : decode cX6_init 163 = .ok (.aload_n 0, 1) := by decide +kernel
theorem dX6_init_164 : decode cX6_init 164 = .ok (.iconst 2, 1) := by decide +kernel
theorem dX6_init_165 : decode cX6_init 165 = .ok (.anewarray 42, 3) := by decide +kernel
theorem dX6_init_168 : decode cX6_init 168 = .ok (.putfield 44, 3) := by decide +kernel
theorem dX6_init_171 : decode cX6_init 171 = .ok (.iconst 0, 1) := by decide +kernel
theorem dX6_init_172 : decode cX6_init 172 = .ok (.istore_n 1, 1) := by decide +kernel
theorem dX6_init_173 : decode cX6_init 173 = .ok (.iload_n 1, 1) := by decide +kernel
theorem dX6_init_174 : decode cX6_init 174 = .ok (.iconst 2, 1) := by decide +kernel
theorem dX6_init_175 : decode cX6_init 175 = .ok (.if_icmp .ge 22, 3) := by decide +kernel
theorem dX6_init_178 : decode cX6_init 178 = .ok (.aload_n 0, 1) := by decide +kernel
theorem dX6_init_179 : decode cX6_init 179 = .ok (.getfield 44, 3) := by decide +kernel
theorem dX6_init_182 : decode cX6_init 182 = .ok (.iload_n 1, 1) := by decide +kernel
theorem dX6_init_183 : decode cX6_init 183 = .ok (.new 42, 3) := by decide +kernel
theorem dX6_init_186 : decode cX6_init 186 = .ok (.dup, 1) := by decide +kernel
theorem dX6_init_187 : decode cX6_init 187 = .ok (.invokespecial 48, 3) := by decide +kernel
theorem dX6_init_190 : decode cX6_init 190 = .ok (.aastore, 1) := by decide +kernel
theorem dX6_init_191 : decode cX6_init 191 = .ok (.iinc 1 1, 3) := by decide +kernel
theorem dX6_init_194 : decode cX6_init 194 = .ok (.goto (-21), 3) := by decide +kernel
theorem dX6_init_197 : decode cX6_init 197 = .ok (.aload_n 0, 1) := by decide +kernel
theorem dX6_init_198 : decode cX6_init 198 = .ok (.new 49, 3) := by decide +kernel
theorem dX6_init_201 : decode cX6_init 201 = .ok (.dup, 1) := by decide +kernel
theorem dX6_init_202 : decode cX6_init 202 = .ok (.invokespecial 51, 3) := by decide +kernel
theorem dX6_init_205 : decode cX6_init 205 = .ok (.putfield 52, 3) := by decide +kernel
theorem dX6_init_208 : decode cX6_init 208 = .ok (.return_, 1) := by decide +kernel
set_option maxRecDepth 20000 in
theorem ggX6_make_X6_signRowAt : GoodIn wsX6_make wsX6_signRowAt := goodIn_ca (goodIn_r _ [12, 13, 14, 4, 24, 25, 26, 27, 28, 29, 30] (by decide +kernel) (by decide +kernel)) (goodIn_sub (fun _ h => List.mem_cons_of_mem _ (List.mem_append_right _ h)) (by decide +kernel))
set_option maxRecDepth 20000 in
theorem gX6_make_X6_signRowAt : GoodIn wsX6_make (wsV RX6 56 RX6 yX6_signRowAt wsX6_signRowAt) := goodIn_app (goodIn_of _ (by decide +kernel)) ggX6_make_X6_signRowAt
set_option maxRecDepth 20000 in
theorem ggX6_make_X3_init : GoodIn wsX6_make wsX3_init := goodIn_r _ [17, 18, 19, 20, 21, 22, 23] (by decide +kernel) (by decide +kernel)
set_option maxRecDepth 20000 in
theorem gX6_make_X3_init : GoodIn wsX6_make (wsX3_init) := ggX6_make_X3_init
theorem dX6_make_0 : decode cX6_make 0 = .ok (.aload_n 0, 1) := by decide +kernel
theorem dX6_make_1 : decode cX6_make 1 = .ok (.iload_n 1, 1) := by decide +kernel
theorem dX6_make_2 : decode cX6_make 2 = .ok (.invokevirtual 56, 3) := by decide +kernel
theorem dX6_make_5 : decode cX6_make 5 = .ok (.getfield 60, 3) := by decide +kernel
theorem dX6_make_8 : decode cX6_make 8 = .ok (.arraylength, 1) := by decide +kernel
theorem dX6_make_9 : decode cX6_make 9 = .ok (.istore_n 3, 1) := by decide +kernel
theorem dX6_make_10 : decode cX6_make 10 = .ok (.iload_n 2, 1) := by decide +kernel
theorem dX6_make_11 : decode cX6_make 11 = .ok (.ifCond .lt 10, 3) := by decide +kernel
theorem dX6_make_14 : decode cX6_make 14 = .ok (.iload_n 2, 1) := by decide +kernel
theorem dX6_make_15 : decode cX6_make 15 = .ok (.sipush 256, 3) := by decide +kernel
theorem dX6_make_18 : decode cX6_make 18 = .ok (.if_icmp .le 13, 3) := by decide +kernel
theorem dX6_make_21 : decode cX6_make 21 = .ok (.new 64, 3) := by decide +kernel
theorem dX6_make_24 : decode cX6_make 24 = .ok (.dup, 1) := by decide +kernel
theorem dX6_make_25 : decode cX6_make 25 = .ok (.ldc 66, 2) := by decide +kernel
theorem dX6_make_27 : decode cX6_make 27 = .ok (.invokespecial 68, 3) := by decide +kernel
theorem dX6_make_30 : decode cX6_make 30 = .ok (.athrow, 1) := by decide +kernel
theorem dX6_make_31 : decode cX6_make 31 = .ok (.aload_n 0, 1) := by decide +kernel
theorem dX6_make_32 : decode cX6_make 32 = .ok (.getfield 11, 3) := by decide +kernel
theorem dX6_make_35 : decode cX6_make 35 = .ok (.iload_n 1, 1) := by decide +kernel
theorem dX6_make_36 : decode cX6_make 36 = .ok (.new 9, 3) := by decide +kernel
theorem dX6_make_39 : decode cX6_make 39 = .ok (.dup, 1) := by decide +kernel
theorem dX6_make_40 : decode cX6_make 40 = .ok (.iload_n 2, 1) := by decide +kernel
theorem dX6_make_41 : decode cX6_make 41 = .ok (.invokespecial 15, 3) := by decide +kernel
theorem dX6_make_44 : decode cX6_make 44 = .ok (.aastore, 1) := by decide +kernel
theorem dX6_make_45 : decode cX6_make 45 = .ok (.iload_n 3, 1) := by decide +kernel
theorem dX6_make_46 : decode cX6_make 46 = .ok (.ireturn, 1) := by decide +kernel
set_option maxRecDepth 20000 in
theorem ggX6_put_X6_signRowAt : GoodIn wsX6_put wsX6_signRowAt := goodIn_ca (goodIn_r _ [6, 7, 8, 9, 17, 18, 19, 20, 21, 22, 23] (by decide +kernel) (by decide +kernel)) (goodIn_sub (fun _ h => List.mem_cons_of_mem _ (List.mem_append_right _ h)) (by decide +kernel))
set_option maxRecDepth 20000 in
theorem gX6_put_X6_signRowAt : GoodIn wsX6_put (wsV RX6 56 RX6 yX6_signRowAt wsX6_signRowAt) := goodIn_app (goodIn_of _ (by decide +kernel)) ggX6_put_X6_signRowAt
set_option maxRecDepth 20000 in
theorem ggX6_put_X6_requirePlace : GoodIn wsX6_put wsX6_requirePlace := goodIn_ca (goodIn_r _ [12, 7, 8] (by decide +kernel) (by decide +kernel)) (goodIn_sub (fun _ h => List.mem_cons_of_mem _ (List.mem_append_right _ h)) (by decide +kernel))
set_option maxRecDepth 20000 in
theorem gX6_put_X6_requirePlace : GoodIn wsX6_put (va_wsS RX6 71 yX6_requirePlace wsX6_requirePlace) := goodIn_app (goodIn_of _ (by decide +kernel)) ggX6_put_X6_requirePlace
set_option maxRecDepth 20000 in
theorem ggX6_put_X6_cut : GoodIn wsX6_put wsX6_cut := goodIn_r _ [15] (by decide +kernel) (by decide +kernel)
set_option maxRecDepth 20000 in
theorem gX6_put_X6_cut : GoodIn wsX6_put (va_wsS RX6 75 yX6_cut wsX6_cut) := goodIn_app (goodIn_of _ (by decide +kernel)) ggX6_put_X6_cut
theorem dX6_put_0 : decode cX6_put 0 = .ok (.aload_n 0, 1) := by decide +kernel
theorem dX6_put_1 : decode cX6_put 1 = .ok (.iload_n 1, 1) := by decide +kernel
theorem dX6_put_2 : decode cX6_put 2 = .ok (.invokevirtual 56, 3) := by decide +kernel
theorem dX6_put_5 : decode cX6_put 5 = .ok (.getfield 60, 3) := by decide +kernel
theorem dX6_put_8 : decode cX6_put 8 = .ok (.astore 4, 2) := by decide +kernel
theorem dX6_put_10 : decode cX6_put 10 = .ok (.iload_n 2, 1) := by decide +kernel
theorem dX6_put_11 : decode cX6_put 11 = .ok (.aload 4, 2) := by decide +kernel
theorem dX6_put_13 : decode cX6_put 13 = .ok (.arraylength, 1) := by decide +kernel
theorem dX6_put_14 : decode cX6_put 14 = .ok (.invokestatic 71, 3) := by decide +kernel
theorem dX6_put_17 : decode cX6_put 17 = .ok (.aload 4, 2) := by decide +kernel
theorem dX6_put_19 : decode cX6_put 19 = .ok (.iload_n 2, 1) := by decide +kernel
theorem dX6_put_20 : decode cX6_put 20 = .ok (.caload, 1) := by decide +kernel
theorem dX6_put_21 : decode cX6_put 21 = .ok (.istore 5, 2) := by decide +kernel
theorem dX6_put_23 : decode cX6_put 23 = .ok (.aload 4, 2) := by decide +kernel
theorem dX6_put_25 : decode cX6_put 25 = .ok (.iload_n 2, 1) := by decide +kernel
theorem dX6_put_26 : decode cX6_put 26 = .ok (.iload_n 3, 1) := by decide +kernel
theorem dX6_put_27 : decode cX6_put 27 = .ok (.invokestatic 75, 3) := by decide +kernel
theorem dX6_put_30 : decode cX6_put 30 = .ok (.castore, 1) := by decide +kernel
theorem dX6_put_31 : decode cX6_put 31 = .ok (.iload 5, 2) := by decide +kernel
theorem dX6_put_33 : decode cX6_put 33 = .ok (.ireturn, 1) := by decide +kernel
set_option maxRecDepth 20000 in
theorem ggX6_get_X6_signRowAt : GoodIn wsX6_get wsX6_signRowAt := goodIn_ca (goodIn_r _ [6, 7, 8, 9, 14, 15, 16, 17, 18, 19, 20] (by decide +kernel) (by decide +kernel)) (goodIn_sub (fun _ h => List.mem_cons_of_mem _ (List.mem_append_right _ h)) (by decide +kernel))
set_option maxRecDepth 20000 in
theorem gX6_get_X6_signRowAt : GoodIn wsX6_get (wsV RX6 56 RX6 yX6_signRowAt wsX6_signRowAt) := goodIn_app (goodIn_of _ (by decide +kernel)) ggX6_get_X6_signRowAt
set_option maxRecDepth 20000 in
theorem ggX6_get_X6_requirePlace : GoodIn wsX6_get wsX6_requirePlace := goodIn_ca (goodIn_r _ [12, 7, 8] (by decide +kernel) (by decide +kernel)) (goodIn_sub (fun _ h => List.mem_cons_of_mem _ (List.mem_append_right _ h)) (by decide +kernel))
set_option maxRecDepth 20000 in
theorem gX6_get_X6_requirePlace : GoodIn wsX6_get (va_wsS RX6 71 yX6_requirePlace wsX6_requirePlace) := goodIn_app (goodIn_of _ (by decide +kernel)) ggX6_get_X6_requirePlace
theorem dX6_get_0 : decode cX6_get 0 = .ok (.aload_n 0, 1) := by decide +kernel
theorem dX6_get_1 : decode cX6_get 1 = .ok (.iload_n 1, 1) := by decide +kernel
theorem dX6_get_2 : decode cX6_get 2 = .ok (.invokevirtual 56, 3) := by decide +kernel
theorem dX6_get_5 : decode cX6_get 5 = .ok (.getfield 60, 3) := by decide +kernel
theorem dX6_get_8 : decode cX6_get 8 = .ok (.astore_n 3, 1) := by decide +kernel
theorem dX6_get_9 : decode cX6_get 9 = .ok (.iload_n 2, 1) := by decide +kernel
theorem dX6_get_10 : decode cX6_get 10 = .ok (.aload_n 3, 1) := by decide +kernel
theorem dX6_get_11 : decode cX6_get 11 = .ok (.arraylength, 1) := by decide +kernel
theorem dX6_get_12 : decode cX6_get 12 = .ok (.invokestatic 71, 3) := by decide +kernel
theorem dX6_get_15 : decode cX6_get 15 = .ok (.aload_n 3, 1) := by decide +kernel
theorem dX6_get_16 : decode cX6_get 16 = .ok (.iload_n 2, 1) := by decide +kernel
theorem dX6_get_17 : decode cX6_get 17 = .ok (.caload, 1) := by decide +kernel
theorem dX6_get_18 : decode cX6_get 18 = .ok (.ireturn, 1) := by decide +kernel
set_option maxRecDepth 20000 in
theorem ggX6_length_X6_signRowAt : GoodIn wsX6_length wsX6_signRowAt := goodIn_ca (goodIn_r _ [6, 7, 8, 9, 11, 12, 13, 14, 15, 16, 17] (by decide +kernel) (by decide +kernel)) (goodIn_sub (fun _ h => List.mem_cons_of_mem _ (List.mem_append_right _ h)) (by decide +kernel))
set_option maxRecDepth 20000 in
theorem gX6_length_X6_signRowAt : GoodIn wsX6_length (wsV RX6 56 RX6 yX6_signRowAt wsX6_signRowAt) := goodIn_app (goodIn_of _ (by decide +kernel)) ggX6_length_X6_signRowAt
theorem dX6_length_0 : decode cX6_length 0 = .ok (.aload_n 0, 1) := by decide +kernel
theorem dX6_length_1 : decode cX6_length 1 = .ok (.iload_n 1, 1) := by decide +kernel
theorem dX6_length_2 : decode cX6_length 2 = .ok (.invokevirtual 56, 3) := by decide +kernel
theorem dX6_length_5 : decode cX6_length 5 = .ok (.getfield 60, 3) := by decide +kernel
theorem dX6_length_8 : decode cX6_length 8 = .ok (.arraylength, 1) := by decide +kernel
theorem dX6_length_9 : decode cX6_length 9 = .ok (.ireturn, 1) := by decide +kernel
set_option maxRecDepth 20000 in
theorem ggX6_begin_X6_textWriterAt : GoodIn wsX6_begin wsX6_textWriterAt := goodIn_ca (goodIn_r _ [5, 6, 7, 8, 15, 16, 17, 18, 19, 20, 21] (by decide +kernel) (by decide +kernel)) (goodIn_sub (fun _ h => List.mem_cons_of_mem _ (List.mem_append_right _ h)) (by decide +kernel))
set_option maxRecDepth 20000 in
theorem gX6_begin_X6_textWriterAt : GoodIn wsX6_begin (wsV RX6 91 RX6 yX6_textWriterAt wsX6_textWriterAt) := goodIn_app (goodIn_of _ (by decide +kernel)) ggX6_begin_X6_textWriterAt
set_option maxRecDepth 20000 in
theorem ggX6_begin_X4_giveUpAll : GoodIn wsX6_begin wsX4_giveUpAll := goodIn_r _ [13, 14, 22, 23] (by decide +kernel) (by decide +kernel)
set_option maxRecDepth 20000 in
theorem gX6_begin_X4_giveUpAll : GoodIn wsX6_begin (wsV RX6 95 RX4 yX4_giveUpAll wsX4_giveUpAll) := goodIn_app (goodIn_of _ (by decide +kernel)) ggX6_begin_X4_giveUpAll
theorem dX6_begin_0 : decode cX6_begin 0 = .ok (.aload_n 0, 1) := by decide +kernel
theorem dX6_begin_1 : decode cX6_begin 1 = .ok (.iload_n 1, 1) := by decide +kernel
theorem dX6_begin_2 : decode cX6_begin 2 = .ok (.invokevirtual 91, 3) := by decide +kernel
theorem dX6_begin_5 : decode cX6_begin 5 = .ok (.invokevirtual 95, 3) := by decide +kernel
theorem dX6_begin_8 : decode cX6_begin 8 = .ok (.ireturn, 1) := by decide +kernel
set_option maxRecDepth 20000 in
theorem ggX6_writeText_X6_textWriterAt : GoodIn wsX6_writeText wsX6_textWriterAt := goodIn_ca (goodIn_r _ [5, 6, 7, 8, 35, 36, 37, 38, 39, 40, 41] (by decide +kernel) (by decide +kernel)) (goodIn_sub (fun _ h => List.mem_cons_of_mem _ (List.mem_append_left _ (List.mem_append_left _ (List.mem_append_right _ h)))) (by decide +kernel))
set_option maxRecDepth 20000 in
theorem gX6_writeText_X6_textWriterAt : GoodIn wsX6_writeText (wsV RX6 91 RX6 yX6_textWriterAt wsX6_textWriterAt) := goodIn_app (goodIn_of _ (by decide +kernel)) ggX6_writeText_X6_textWriterAt
set_option maxRecDepth 20000 in
theorem ggX6_writeText_X6_addPart : GoodIn wsX6_writeText wsX6_addPart := goodIn_ca (goodIn_ca (goodIn_ca (goodIn_r _ [12, 13, 14, 15, 16, 17, 4, 18, 6, 7, 19, 20, 21, 22, 23, 24, 25, 26, 27, 28, 29, 30, 31, 32, 33, 34, 42, 43, 44, 35, 36, 37, 38, 39, 40, 41] (by decide +kernel) (by decide +kernel)) (goodIn_sub (fun _ h => List.mem_cons_of_mem _ (List.mem_append_left _ (List.mem_append_left _ (List.mem_append_right _ h)))) (by decide +kernel))) (goodIn_sub (fun _ h => List.mem_cons_of_mem _ (List.mem_append_left _ (List.mem_append_right _ h))) (by decide +kernel))) (goodIn_sub (fun _ h => List.mem_cons_of_mem _ (List.mem_append_right _ h)) (by decide +kernel))
set_option maxRecDepth 20000 in
theorem gX6_writeText_X6_addPart : GoodIn wsX6_writeText (wsV RX6 103 RX6 yX6_addPart wsX6_addPart) := goodIn_app (goodIn_of _ (by decide +kernel)) ggX6_writeText_X6_addPart
theorem dX6_writeText_0 : decode cX6_writeText 0 = .ok (.aload_n 0, 1) := by decide +kernel
theorem dX6_writeText_1 : decode cX6_writeText 1 = .ok (.aload_n 0, 1) := by decide +kernel
theorem dX6_writeText_2 : decode cX6_writeText 2 = .ok (.iload_n 1, 1) := by decide +kernel
theorem dX6_writeText_3 : decode cX6_writeText 3 = .ok (.invokevirtual 91, 3) := by decide +kernel
theorem dX6_writeText_6 : decode cX6_writeText 6 = .ok (.iload_n 2, 1) := by decide +kernel
theorem dX6_writeText_7 : decode cX6_writeText 7 = .ok (.iload_n 3, 1) := by decide +kernel
theorem dX6_writeText_8 : decode cX6_writeText 8 = .ok (.iload 4, 2) := by decide +kernel
theorem dX6_writeText_10 : decode cX6_writeText 10 = .ok (.invokevirtual 103, 3) := by decide +kernel
theorem dX6_writeText_13 : decode cX6_writeText 13 = .ok (.ireturn, 1) := by decide +kernel
set_option maxRecDepth 20000 in
theorem ggX6_writeSigns_X6_textWriterAt : GoodIn wsX6_writeSigns wsX6_textWriterAt := goodIn_ca (goodIn_r _ [5, 6, 7, 8, 35, 36, 37, 38, 39, 40, 41] (by decide +kernel) (by decide +kernel)) (goodIn_sub (fun _ h => List.mem_cons_of_mem _ (List.mem_append_left _ (List.mem_append_left _ (List.mem_append_right _ h)))) (by decide +kernel))
set_option maxRecDepth 20000 in
theorem gX6_writeSigns_X6_textWriterAt : GoodIn wsX6_writeSigns (wsV RX6 91 RX6 yX6_textWriterAt wsX6_textWriterAt) := goodIn_app (goodIn_of _ (by decide +kernel)) ggX6_writeSigns_X6_textWriterAt
set_option maxRecDepth 20000 in
theorem ggX6_writeSigns_X6_addPart : GoodIn wsX6_writeSigns wsX6_addPart := goodIn_ca (goodIn_ca (goodIn_ca (goodIn_r _ [12, 13, 14, 15, 16, 17, 4, 18, 6, 7, 19, 20, 21, 22, 23, 24, 25, 26, 27, 28, 29, 30, 31, 32, 33, 34, 42, 43, 44, 35, 36, 37, 38, 39, 40, 41] (by decide +kernel) (by decide +kernel)) (goodIn_sub (fun _ h => List.mem_cons_of_mem _ (List.mem_append_left _ (List.mem_append_left _ (List.mem_append_right _ h)))) (by decide +kernel))) (goodIn_sub (fun _ h => List.mem_cons_of_mem _ (List.mem_append_left _ (List.mem_append_right _ h))) (by decide +kernel))) (goodIn_sub (fun _ h => List.mem_cons_of_mem _ (List.mem_append_right _ h)) (by decide +kernel))
set_option maxRecDepth 20000 in
theorem gX6_writeSigns_X6_addPart : GoodIn wsX6_writeSigns (wsV RX6 103 RX6 yX6_addPart wsX6_addPart) := goodIn_app (goodIn_of _ (by decide +kernel)) ggX6_writeSigns_X6_addPart
theorem dX6_writeSigns_0 : decode cX6_writeSigns 0 = .ok (.aload_n 0, 1) := by decide +kernel
theorem dX6_writeSigns_1 : decode cX6_writeSigns 1 = .ok (.aload_n 0, 1) := by decide +kernel
theorem dX6_writeSigns_2 : decode cX6_writeSigns 2 = .ok (.iload_n 1, 1) := by decide +kernel
theorem dX6_writeSigns_3 : decode cX6_writeSigns 3 = .ok (.invokevirtual 91, 3) := by decide +kernel
theorem dX6_writeSigns_6 : decode cX6_writeSigns 6 = .ok (.iload_n 2, 1) := by decide +kernel
theorem dX6_writeSigns_7 : decode cX6_writeSigns 7 = .ok (.iload_n 3, 1) := by decide +kernel
theorem dX6_writeSigns_8 : decode cX6_writeSigns 8 = .ok (.iload 4, 2) := by decide +kernel
theorem dX6_writeSigns_10 : decode cX6_writeSigns 10 = .ok (.invokevirtual 103, 3) := by decide +kernel
theorem dX6_writeSigns_13 : decode cX6_writeSigns 13 = .ok (.ireturn, 1) := by decide +kernel
set_option maxRecDepth 20000 in
theorem ggX6_take_X6_textWriterAt : GoodIn wsX6_take wsX6_textWriterAt := goodIn_ca (goodIn_r _ [5, 6, 7, 8, 38, 39, 40, 41, 42, 43, 44] (by decide +kernel) (by decide +kernel)) (goodIn_sub (fun _ h => List.mem_cons_of_mem _ (List.mem_append_left _ (List.mem_append_right _ h))) (by decide +kernel))
set_option maxRecDepth 20000 in
theorem gX6_take_X6_textWriterAt : GoodIn wsX6_take (wsV RX6 91 RX6 yX6_textWriterAt wsX6_textWriterAt) := goodIn_app (goodIn_of _ (by decide +kernel)) ggX6_take_X6_textWriterAt
set_option maxRecDepth 20000 in
theorem ggX6_take_X6_takeInto : GoodIn wsX6_take wsX6_takeInto := goodIn_ca (goodIn_ca (goodIn_r _ [12, 13, 14, 15, 16, 17, 18, 19, 20, 21, 4, 22, 6, 7, 23, 24, 25, 26, 27, 28, 29, 30, 31, 32, 33, 34, 35, 36, 37, 45, 46, 47, 38, 39, 40, 41, 42, 43, 44] (by decide +kernel) (by decide +kernel)) (goodIn_sub (fun _ h => List.mem_cons_of_mem _ (List.mem_append_left _ (List.mem_append_right _ h))) (by decide +kernel))) (goodIn_sub (fun _ h => List.mem_cons_of_mem _ (List.mem_append_right _ h)) (by decide +kernel))
set_option maxRecDepth 20000 in
theorem gX6_take_X6_takeInto : GoodIn wsX6_take (wsV RX6 111 RX6 yX6_takeInto wsX6_takeInto) := goodIn_app (goodIn_of _ (by decide +kernel)) ggX6_take_X6_takeInto
theorem dX6_take_0 : decode cX6_take 0 = .ok (.aload_n 0, 1) := by decide +kernel
theorem dX6_take_1 : decode cX6_take 1 = .ok (.aload_n 0, 1) := by decide +kernel
theorem dX6_take_2 : decode cX6_take 2 = .ok (.iload_n 1, 1) := by decide +kernel
theorem dX6_take_3 : decode cX6_take 3 = .ok (.invokevirtual 91, 3) := by decide +kernel
theorem dX6_take_6 : decode cX6_take 6 = .ok (.iload_n 2, 1) := by decide +kernel
theorem dX6_take_7 : decode cX6_take 7 = .ok (.invokevirtual 111, 3) := by decide +kernel
theorem dX6_take_10 : decode cX6_take 10 = .ok (.ireturn, 1) := by decide +kernel
set_option maxRecDepth 20000 in
theorem ggX6_empty_X6_arrayWriterAt : GoodIn wsX6_empty wsX6_arrayWriterAt := goodIn_ca (goodIn_r _ [5, 6, 7, 8, 15, 16, 17, 18, 19, 20, 21] (by decide +kernel) (by decide +kernel)) (goodIn_sub (fun _ h => List.mem_cons_of_mem _ (List.mem_append_right _ h)) (by decide +kernel))
set_option maxRecDepth 20000 in
theorem gX6_empty_X6_arrayWriterAt : GoodIn wsX6_empty (wsV RX6 115 RX6 yX6_arrayWriterAt wsX6_arrayWriterAt) := goodIn_app (goodIn_of _ (by decide +kernel)) ggX6_empty_X6_arrayWriterAt
set_option maxRecDepth 20000 in
theorem ggX6_empty_X4_giveUpAll : GoodIn wsX6_empty wsX4_giveUpAll := goodIn_r _ [13, 14, 22, 23] (by decide +kernel) (by decide +kernel)
set_option maxRecDepth 20000 in
theorem gX6_empty_X4_giveUpAll : GoodIn wsX6_empty (wsV RX6 95 RX4 yX4_giveUpAll wsX4_giveUpAll) := goodIn_app (goodIn_of _ (by decide +kernel)) ggX6_empty_X4_giveUpAll
theorem dX6_empty_0 : decode cX6_empty 0 = .ok (.aload_n 0, 1) := by decide +kernel
theorem dX6_empty_1 : decode cX6_empty 1 = .ok (.iload_n 1, 1) := by decide +kernel
theorem dX6_empty_2 : decode cX6_empty 2 = .ok (.invokevirtual 115, 3) := by decide +kernel
theorem dX6_empty_5 : decode cX6_empty 5 = .ok (.invokevirtual 95, 3) := by decide +kernel
theorem dX6_empty_8 : decode cX6_empty 8 = .ok (.ireturn, 1) := by decide +kernel
set_option maxRecDepth 20000 in
theorem ggX6_arrayText_X6_arrayWriterAt : GoodIn wsX6_arrayText wsX6_arrayWriterAt := goodIn_ca (goodIn_r _ [5, 6, 7, 8, 35, 36, 37, 38, 39, 40, 41] (by decide +kernel) (by decide +kernel)) (goodIn_sub (fun _ h => List.mem_cons_of_mem _ (List.mem_append_left _ (List.mem_append_left _ (List.mem_append_right _ h)))) (by decide +kernel))
set_option maxRecDepth 20000 in
theorem gX6_arrayText_X6_arrayWriterAt : GoodIn wsX6_arrayText (wsV RX6 115 RX6 yX6_arrayWriterAt wsX6_arrayWriterAt) := goodIn_app (goodIn_of _ (by decide +kernel)) ggX6_arrayText_X6_arrayWriterAt
set_option maxRecDepth 20000 in
theorem ggX6_arrayText_X6_addPart : GoodIn wsX6_arrayText wsX6_addPart := goodIn_ca (goodIn_ca (goodIn_ca (goodIn_r _ [12, 13, 14, 15, 16, 17, 4, 18, 6, 7, 19, 20, 21, 22, 23, 24, 25, 26, 27, 28, 29, 30, 31, 32, 33, 34, 42, 43, 44, 35, 36, 37, 38, 39, 40, 41] (by decide +kernel) (by decide +kernel)) (goodIn_sub (fun _ h => List.mem_cons_of_mem _ (List.mem_append_left _ (List.mem_append_left _ (List.mem_append_right _ h)))) (by decide +kernel))) (goodIn_sub (fun _ h => List.mem_cons_of_mem _ (List.mem_append_left _ (List.mem_append_right _ h))) (by decide +kernel))) (goodIn_sub (fun _ h => List.mem_cons_of_mem _ (List.mem_append_right _ h)) (by decide +kernel))
set_option maxRecDepth 20000 in
theorem gX6_arrayText_X6_addPart : GoodIn wsX6_arrayText (wsV RX6 103 RX6 yX6_addPart wsX6_addPart) := goodIn_app (goodIn_of _ (by decide +kernel)) ggX6_arrayText_X6_addPart
theorem dX6_arrayText_0 : decode cX6_arrayText 0 = .ok (.aload_n 0, 1) := by decide +kernel
theorem dX6_arrayText_1 : decode cX6_arrayText 1 = .ok (.aload_n 0, 1) := by decide +kernel
theorem dX6_arrayText_2 : decode cX6_arrayText 2 = .ok (.iload_n 1, 1) := by decide +kernel
theorem dX6_arrayText_3 : decode cX6_arrayText 3 = .ok (.invokevirtual 115, 3) := by decide +kernel
theorem dX6_arrayText_6 : decode cX6_arrayText 6 = .ok (.iload_n 2, 1) := by decide +kernel
theorem dX6_arrayText_7 : decode cX6_arrayText 7 = .ok (.iload_n 3, 1) := by decide +kernel
theorem dX6_arrayText_8 : decode cX6_arrayText 8 = .ok (.iload 4, 2) := by decide +kernel
theorem dX6_arrayText_10 : decode cX6_arrayText 10 = .ok (.invokevirtual 103, 3) := by decide +kernel
theorem dX6_arrayText_13 : decode cX6_arrayText 13 = .ok (.ireturn, 1) := by decide +kernel
set_option maxRecDepth 20000 in
theorem ggX6_arraySigns_X6_arrayWriterAt : GoodIn wsX6_arraySigns wsX6_arrayWriterAt := goodIn_ca (goodIn_r _ [5, 6, 7, 8, 35, 36, 37, 38, 39, 40, 41] (by decide +kernel) (by decide +kernel)) (goodIn_sub (fun _ h => List.mem_cons_of_mem _ (List.mem_append_left _ (List.mem_append_left _ (List.mem_append_right _ h)))) (by decide +kernel))
set_option maxRecDepth 20000 in
theorem gX6_arraySigns_X6_arrayWriterAt : GoodIn wsX6_arraySigns (wsV RX6 115 RX6 yX6_arrayWriterAt wsX6_arrayWriterAt) := goodIn_app (goodIn_of _ (by decide +kernel)) ggX6_arraySigns_X6_arrayWriterAt
set_option maxRecDepth 20000 in
theorem ggX6_arraySigns_X6_addPart : GoodIn wsX6_arraySigns wsX6_addPart := goodIn_ca (goodIn_ca (goodIn_ca (goodIn_r _ [12, 13, 14, 15, 16, 17, 4, 18, 6, 7, 19, 20, 21, 22, 23, 24, 25, 26, 27, 28, 29, 30, 31, 32, 33, 34, 42, 43, 44, 35, 36, 37, 38, 39, 40, 41] (by decide +kernel) (by decide +kernel)) (goodIn_sub (fun _ h => List.mem_cons_of_mem _ (List.mem_append_left _ (List.mem_append_left _ (List.mem_append_right _ h)))) (by decide +kernel))) (goodIn_sub (fun _ h => List.mem_cons_of_mem _ (List.mem_append_left _ (List.mem_append_right _ h))) (by decide +kernel))) (goodIn_sub (fun _ h => List.mem_cons_of_mem _ (List.mem_append_right _ h)) (by decide +kernel))
set_option maxRecDepth 20000 in
theorem gX6_arraySigns_X6_addPart : GoodIn wsX6_arraySigns (wsV RX6 103 RX6 yX6_addPart wsX6_addPart) := goodIn_app (goodIn_of _ (by decide +kernel)) ggX6_arraySigns_X6_addPart
theorem dX6_arraySigns_0 : decode cX6_arraySigns 0 = .ok (.aload_n 0, 1) := by decide +kernel
theorem dX6_arraySigns_1 : decode cX6_arraySigns 1 = .ok (.aload_n 0, 1) := by decide +kernel
theorem dX6_arraySigns_2 : decode cX6_arraySigns 2 = .ok (.iload_n 1, 1) := by decide +kernel
theorem dX6_arraySigns_3 : decode cX6_arraySigns 3 = .ok (.invokevirtual 115, 3) := by decide +kernel
theorem dX6_arraySigns_6 : decode cX6_arraySigns 6 = .ok (.iload_n 2, 1) := by decide +kernel
theorem dX6_arraySigns_7 : decode cX6_arraySigns 7 = .ok (.iload_n 3, 1) := by decide +kernel
theorem dX6_arraySigns_8 : decode cX6_arraySigns 8 = .ok (.iload 4, 2) := by decide +kernel
theorem dX6_arraySigns_10 : decode cX6_arraySigns 10 = .ok (.invokevirtual 103, 3) := by decide +kernel
theorem dX6_arraySigns_13 : decode cX6_arraySigns 13 = .ok (.ireturn, 1) := by decide +kernel
set_option maxRecDepth 20000 in
theorem ggX6_arrayTake_X6_arrayWriterAt : GoodIn wsX6_arrayTake wsX6_arrayWriterAt := goodIn_ca (goodIn_r _ [5, 6, 7, 8, 38, 39, 40, 41, 42, 43, 44] (by decide +kernel) (by decide +kernel)) (goodIn_sub (fun _ h => List.mem_cons_of_mem _ (List.mem_append_left _ (List.mem_append_right _ h))) (by decide +kernel))
set_option maxRecDepth 20000 in
theorem gX6_arrayTake_X6_arrayWriterAt : GoodIn wsX6_arrayTake (wsV RX6 115 RX6 yX6_arrayWriterAt wsX6_arrayWriterAt) := goodIn_app (goodIn_of _ (by decide +kernel)) ggX6_arrayTake_X6_arrayWriterAt
set_option maxRecDepth 20000 in
theorem ggX6_arrayTake_X6_takeInto : GoodIn wsX6_arrayTake wsX6_takeInto := goodIn_ca (goodIn_ca (goodIn_r _ [12, 13, 14, 15, 16, 17, 18, 19, 20, 21, 4, 22, 6, 7, 23, 24, 25, 26, 27, 28, 29, 30, 31, 32, 33, 34, 35, 36, 37, 45, 46, 47, 38, 39, 40, 41, 42, 43, 44] (by decide +kernel) (by decide +kernel)) (goodIn_sub (fun _ h => List.mem_cons_of_mem _ (List.mem_append_left _ (List.mem_append_right _ h))) (by decide +kernel))) (goodIn_sub (fun _ h => List.mem_cons_of_mem _ (List.mem_append_right _ h)) (by decide +kernel))
set_option maxRecDepth 20000 in
theorem gX6_arrayTake_X6_takeInto : GoodIn wsX6_arrayTake (wsV RX6 111 RX6 yX6_takeInto wsX6_takeInto) := goodIn_app (goodIn_of _ (by decide +kernel)) ggX6_arrayTake_X6_takeInto
theorem dX6_arrayTake_0 : decode cX6_arrayTake 0 = .ok (.aload_n 0, 1) := by decide +kernel
theorem dX6_arrayTake_1 : decode cX6_arrayTake 1 = .ok (.aload_n 0, 1) := by decide +kernel
theorem dX6_arrayTake_2 : decode cX6_arrayTake 2 = .ok (.iload_n 1, 1) := by decide +kernel
theorem dX6_arrayTake_3 : decode cX6_arrayTake 3 = .ok (.invokevirtual 115, 3) := by decide +kernel
theorem dX6_arrayTake_6 : decode cX6_arrayTake 6 = .ok (.iload_n 2, 1) := by decide +kernel
theorem dX6_arrayTake_7 : decode cX6_arrayTake 7 = .ok (.invokevirtual 111, 3) := by decide +kernel
theorem dX6_arrayTake_10 : decode cX6_arrayTake 10 = .ok (.ireturn, 1) := by decide +kernel
set_option maxRecDepth 20000 in
theorem ggX6_areLike_X6_textWriterAt : GoodIn wsX6_areLike wsX6_textWriterAt := goodIn_ca (goodIn_r _ [5, 6, 7, 8, 21, 22, 23, 24, 25, 26, 27] (by decide +kernel) (by decide +kernel)) (goodIn_sub (fun _ h => List.mem_cons_of_mem _ (List.mem_append_left _ (List.mem_append_right _ h))) (by decide +kernel))
set_option maxRecDepth 20000 in
theorem gX6_areLike_X6_textWriterAt : GoodIn wsX6_areLike (wsV RX6 91 RX6 yX6_textWriterAt wsX6_textWriterAt) := goodIn_app (goodIn_of _ (by decide +kernel)) ggX6_areLike_X6_textWriterAt
set_option maxRecDepth 20000 in
theorem ggX6_areLike_X6_arrayWriterAt : GoodIn wsX6_areLike wsX6_arrayWriterAt := goodIn_ca (goodIn_r _ [12, 6, 7, 13, 21, 22, 23, 24, 25, 26, 27] (by decide +kernel) (by decide +kernel)) (goodIn_sub (fun _ h => List.mem_cons_of_mem _ (List.mem_append_left _ (List.mem_append_right _ h))) (by decide +kernel))
set_option maxRecDepth 20000 in
theorem gX6_areLike_X6_arrayWriterAt : GoodIn wsX6_areLike (wsV RX6 115 RX6 yX6_arrayWriterAt wsX6_arrayWriterAt) := goodIn_app (goodIn_of _ (by decide +kernel)) ggX6_areLike_X6_arrayWriterAt
set_option maxRecDepth 20000 in
theorem ggX6_areLike_X4_hasSameAs : GoodIn wsX6_areLike wsX4_hasSameAs := goodIn_ca (goodIn_r _ [18, 19, 20, 28, 29] (by decide +kernel) (by decide +kernel)) (goodIn_sub (fun _ h => List.mem_cons_of_mem _ (List.mem_append_right _ h)) (by decide +kernel))
set_option maxRecDepth 20000 in
theorem gX6_areLike_X4_hasSameAs : GoodIn wsX6_areLike (wsV RX6 124 RX4 yX4_hasSameAs wsX4_hasSameAs) := goodIn_app (goodIn_of _ (by decide +kernel)) ggX6_areLike_X4_hasSameAs
theorem dX6_areLike_0 : decode cX6_areLike 0 = .ok (.aload_n 0, 1) := by decide +kernel
theorem dX6_areLike_1 : decode cX6_areLike 1 = .ok (.iload_n 1, 1) := by decide +kernel
theorem dX6_areLike_2 : decode cX6_areLike 2 = .ok (.invokevirtual 91, 3) := by decide +kernel
theorem dX6_areLike_5 : decode cX6_areLike 5 = .ok (.aload_n 0, 1) := by decide +kernel
theorem dX6_areLike_6 : decode cX6_areLike 6 = .ok (.iload_n 2, 1) := by decide +kernel
theorem dX6_areLike_7 : decode cX6_areLike 7 = .ok (.invokevirtual 115, 3) := by decide +kernel
theorem dX6_areLike_10 : decode cX6_areLike 10 = .ok (.invokevirtual 124, 3) := by decide +kernel
theorem dX6_areLike_13 : decode cX6_areLike 13 = .ok (.ireturn, 1) := by decide +kernel
set_option maxRecDepth 20000 in
theorem ggX6_open_X6_readerAt : GoodIn wsX6_open wsX6_readerAt := goodIn_ca (goodIn_r _ [6, 7, 8, 9, 45, 46, 47, 48, 49, 50, 51] (by decide +kernel) (by decide +kernel)) (goodIn_sub (fun _ h => List.mem_cons_of_mem _ (List.mem_append_left _ (List.mem_append_right _ h))) (by decide +kernel))
set_option maxRecDepth 20000 in
theorem gX6_open_X6_readerAt : GoodIn wsX6_open (wsV RX6 128 RX6 yX6_readerAt wsX6_readerAt) := goodIn_app (goodIn_of _ (by decide +kernel)) ggX6_open_X6_readerAt
set_option maxRecDepth 20000 in
theorem ggX6_open_X6_signRowAt : GoodIn wsX6_open wsX6_signRowAt := goodIn_ca (goodIn_r _ [13, 7, 8, 14, 45, 46, 47, 48, 49, 50, 51] (by decide +kernel) (by decide +kernel)) (goodIn_sub (fun _ h => List.mem_cons_of_mem _ (List.mem_append_left _ (List.mem_append_right _ h))) (by decide +kernel))
set_option maxRecDepth 20000 in
theorem gX6_open_X6_signRowAt : GoodIn wsX6_open (wsV RX6 56 RX6 yX6_signRowAt wsX6_signRowAt) := goodIn_app (goodIn_of _ (by decide +kernel)) ggX6_open_X6_signRowAt
set_option maxRecDepth 20000 in
theorem ggX6_open_X6_requirePlaces : GoodIn wsX6_open wsX6_requirePlaces := goodIn_ca (goodIn_r _ [17, 7, 8] (by decide +kernel) (by decide +kernel)) (goodIn_sub (fun _ h => List.mem_cons_of_mem _ (List.mem_append_left _ (List.mem_append_right _ h))) (by decide +kernel))
set_option maxRecDepth 20000 in
theorem gX6_open_X6_requirePlaces : GoodIn wsX6_open (va_wsS RX6 79 yX6_requirePlaces wsX6_requirePlaces) := goodIn_app (goodIn_of _ (by decide +kernel)) ggX6_open_X6_requirePlaces
set_option maxRecDepth 20000 in
theorem ggX6_open_X6_requireWanted : GoodIn wsX6_open wsX6_requireWanted := goodIn_ca (goodIn_r _ [20, 21, 22, 23] (by decide +kernel) (by decide +kernel)) (goodIn_sub (fun _ h => List.mem_cons_of_mem _ (List.mem_append_right _ h)) (by decide +kernel))
set_option maxRecDepth 20000 in
theorem gX6_open_X6_requireWanted : GoodIn wsX6_open (va_wsS RX6 132 yX6_requireWanted wsX6_requireWanted) := goodIn_app (goodIn_of _ (by decide +kernel)) ggX6_open_X6_requireWanted
set_option maxRecDepth 20000 in
theorem ggX6_open_X2_openOn : GoodIn wsX6_open wsX2_openOn := goodIn_r _ [28, 29, 30, 31, 32, 33, 34, 35, 36, 37, 38, 39, 52, 53, 54, 55, 56, 57, 44] (by decide +kernel) (by decide +kernel)
set_option maxRecDepth 20000 in
theorem gX6_open_X2_openOn : GoodIn wsX6_open (wsV RX6 136 RX2 yX2_openOn wsX2_openOn) := goodIn_app (goodIn_of _ (by decide +kernel)) ggX6_open_X2_openOn
set_option maxRecDepth 20000 in
theorem ggX6_open_X2_countRest : GoodIn wsX6_open wsX2_countRest := goodIn_r _ [43, 36, 30, 52, 53, 54, 55, 56, 57] (by decide +kernel) (by decide +kernel)
set_option maxRecDepth 20000 in
theorem gX6_open_X2_countRest : GoodIn wsX6_open (wsV RX6 140 RX2 yX2_countRest wsX2_countRest) := goodIn_app (goodIn_of _ (by decide +kernel)) ggX6_open_X2_countRest
theorem dX6_open_0 : decode cX6_open 0 = .ok (.aload_n 0, 1) := by decide +kernel
theorem dX6_open_1 : decode cX6_open 1 = .ok (.iload_n 1, 1) := by decide +kernel
theorem dX6_open_2 : decode cX6_open 2 = .ok (.invokevirtual 128, 3) := by decide +kernel
theorem dX6_open_5 : decode cX6_open 5 = .ok (.astore 5, 2) := by decide +kernel
theorem dX6_open_7 : decode cX6_open 7 = .ok (.aload_n 0, 1) := by decide +kernel
theorem dX6_open_8 : decode cX6_open 8 = .ok (.iload_n 2, 1) := by decide +kernel
theorem dX6_open_9 : decode cX6_open 9 = .ok (.invokevirtual 56, 3) := by decide +kernel
theorem dX6_open_12 : decode cX6_open 12 = .ok (.astore 6, 2) := by decide +kernel
theorem dX6_open_14 : decode cX6_open 14 = .ok (.iload_n 3, 1) := by decide +kernel
theorem dX6_open_15 : decode cX6_open 15 = .ok (.iconst 0, 1) := by decide +kernel
theorem dX6_open_16 : decode cX6_open 16 = .ok (.aload 6, 2) := by decide +kernel
theorem dX6_open_18 : decode cX6_open 18 = .ok (.getfield 60, 3) := by decide +kernel
theorem dX6_open_21 : decode cX6_open 21 = .ok (.arraylength, 1) := by decide +kernel
theorem dX6_open_22 : decode cX6_open 22 = .ok (.invokestatic 79, 3) := by decide +kernel
theorem dX6_open_25 : decode cX6_open 25 = .ok (.iload 4, 2) := by decide +kernel
theorem dX6_open_27 : decode cX6_open 27 = .ok (.i2l, 1) := by decide +kernel
theorem dX6_open_28 : decode cX6_open 28 = .ok (.invokestatic 132, 3) := by decide +kernel
theorem dX6_open_31 : decode cX6_open 31 = .ok (.aload 5, 2) := by decide +kernel
theorem dX6_open_33 : decode cX6_open 33 = .ok (.aload 6, 2) := by decide +kernel
theorem dX6_open_35 : decode cX6_open 35 = .ok (.iload_n 3, 1) := by decide +kernel
theorem dX6_open_36 : decode cX6_open 36 = .ok (.iload 4, 2) := by decide +kernel
theorem dX6_open_38 : decode cX6_open 38 = .ok (.invokevirtual 136, 3) := by decide +kernel
theorem dX6_open_41 : decode cX6_open 41 = .ok (.aload 5, 2) := by decide +kernel
theorem dX6_open_43 : decode cX6_open 43 = .ok (.invokevirtual 140, 3) := by decide +kernel
theorem dX6_open_46 : decode cX6_open 46 = .ok (.ireturn, 1) := by decide +kernel
set_option maxRecDepth 20000 in
theorem ggX6_shut_X6_readerAt : GoodIn wsX6_shut wsX6_readerAt := goodIn_ca (goodIn_r _ [9, 10, 11, 12, 26, 27, 28, 29, 30, 31, 32] (by decide +kernel) (by decide +kernel)) (goodIn_sub (fun _ h => List.mem_cons_of_mem _ (List.mem_append_right _ h)) (by decide +kernel))
set_option maxRecDepth 20000 in
theorem gX6_shut_X6_readerAt : GoodIn wsX6_shut (wsV RX6 128 RX6 yX6_readerAt wsX6_readerAt) := goodIn_app (goodIn_of _ (by decide +kernel)) ggX6_shut_X6_readerAt
set_option maxRecDepth 20000 in
theorem ggX6_shut_X2_countRest : GoodIn wsX6_shut wsX2_countRest := goodIn_r _ [17, 18, 19, 20, 21, 22, 23, 24, 25] (by decide +kernel) (by decide +kernel)
set_option maxRecDepth 20000 in
theorem gX6_shut_X2_countRest : GoodIn wsX6_shut (wsV RX6 140 RX2 yX2_countRest wsX2_countRest) := goodIn_app (goodIn_of _ (by decide +kernel)) ggX6_shut_X2_countRest
theorem dX6_shut_0 : decode cX6_shut 0 = .ok (.aload_n 0, 1) := by decide +kernel
theorem dX6_shut_1 : decode cX6_shut 1 = .ok (.iload_n 1, 1) := by decide +kernel
theorem dX6_shut_2 : decode cX6_shut 2 = .ok (.invokevirtual 128, 3) := by decide +kernel
theorem dX6_shut_5 : decode cX6_shut 5 = .ok (.astore_n 2, 1) := by decide +kernel
theorem dX6_shut_6 : decode cX6_shut 6 = .ok (.aload_n 2, 1) := by decide +kernel
theorem dX6_shut_7 : decode cX6_shut 7 = .ok (.getfield 143, 3) := by decide +kernel
theorem dX6_shut_10 : decode cX6_shut 10 = .ok (.ifCond .ne 13, 3) := by decide +kernel
theorem dX6_shut_13 : decode cX6_shut 13 = .ok (.new 147, 3) := by decide +kernel
theorem dX6_shut_16 : decode cX6_shut 16 = .ok (.dup, 1) := by decide +kernel
theorem dX6_shut_17 : decode cX6_shut 17 = .ok (.ldc 149, 2) := by decide +kernel
theorem dX6_shut_19 : decode cX6_shut 19 = .ok (.invokespecial 151, 3) := by decide +kernel
theorem dX6_shut_22 : decode cX6_shut 22 = .ok (.athrow, 1) := by decide +kernel
theorem dX6_shut_23 : decode cX6_shut 23 = .ok (.aload_n 2, 1) := by decide +kernel
theorem dX6_shut_24 : decode cX6_shut 24 = .ok (.getfield 152, 3) := by decide +kernel
theorem dX6_shut_27 : decode cX6_shut 27 = .ok (.ifCond .eq 7, 3) := by decide +kernel
theorem dX6_shut_30 : decode cX6_shut 30 = .ok (.iconst 0, 1) := by decide +kernel
theorem dX6_shut_31 : decode cX6_shut 31 = .ok (.goto 7, 3) := by decide +kernel
theorem dX6_shut_34 : decode cX6_shut 34 = .ok (.aload_n 2, 1) := by decide +kernel
theorem dX6_shut_35 : decode cX6_shut 35 = .ok (.invokevirtual 140, 3) := by decide +kernel
theorem dX6_shut_38 : decode cX6_shut 38 = .ok (.istore_n 3, 1) := by decide +kernel
theorem dX6_shut_39 : decode cX6_shut 39 = .ok (.aload_n 2, 1) := by decide +kernel
theorem dX6_shut_40 : decode cX6_shut 40 = .ok (.iconst 1, 1) := by decide +kernel
theorem dX6_shut_41 : decode cX6_shut 41 = .ok (.putfield 152, 3) := by decide +kernel
theorem dX6_shut_44 : decode cX6_shut 44 = .ok (.iload_n 3, 1) := by decide +kernel
theorem dX6_shut_45 : decode cX6_shut 45 = .ok (.ireturn, 1) := by decide +kernel
set_option maxRecDepth 20000 in
theorem ggX6_read_X6_openReaderAt : GoodIn wsX6_read wsX6_openReaderAt := goodIn_ca (goodIn_ca (goodIn_r _ [5, 6, 7, 8, 9, 10, 11, 12, 4, 13, 14, 15, 16, 26, 27, 28, 29, 30, 31, 32, 33, 34, 35, 36, 37, 38] (by decide +kernel) (by decide +kernel)) (goodIn_sub (fun _ h => List.mem_cons_of_mem _ (List.mem_append_left _ (List.mem_append_left _ (List.mem_append_right _ h)))) (by decide +kernel))) (goodIn_sub (fun _ h => List.mem_cons_of_mem _ (List.mem_append_left _ (List.mem_append_right _ h))) (by decide +kernel))
set_option maxRecDepth 20000 in
theorem gX6_read_X6_openReaderAt : GoodIn wsX6_read (wsV RX6 155 RX6 yX6_openReaderAt wsX6_openReaderAt) := goodIn_app (goodIn_of _ (by decide +kernel)) ggX6_read_X6_openReaderAt
set_option maxRecDepth 20000 in
theorem ggX6_read_X2_readOne : GoodIn wsX6_read wsX2_readOne := goodIn_ca (goodIn_r _ [21, 22, 23, 24, 25, 26, 27, 28, 29, 30, 31, 39] (by decide +kernel) (by decide +kernel)) (goodIn_sub (fun _ h => List.mem_cons_of_mem _ (List.mem_append_right _ h)) (by decide +kernel))
set_option maxRecDepth 20000 in
theorem gX6_read_X2_readOne : GoodIn wsX6_read (wsV RX6 158 RX2 yX2_readOne wsX2_readOne) := goodIn_app (goodIn_of _ (by decide +kernel)) ggX6_read_X2_readOne
theorem dX6_read_0 : decode cX6_read 0 = .ok (.aload_n 0, 1) := by decide +kernel
theorem dX6_read_1 : decode cX6_read 1 = .ok (.iload_n 1, 1) := by decide +kernel
theorem dX6_read_2 : decode cX6_read 2 = .ok (.invokevirtual 155, 3) := by decide +kernel
theorem dX6_read_5 : decode cX6_read 5 = .ok (.invokevirtual 158, 3) := by decide +kernel
theorem dX6_read_8 : decode cX6_read 8 = .ok (.ireturn, 1) := by decide +kernel
set_option maxRecDepth 20000 in
theorem ggX6_readPart_X6_readerAt : GoodIn wsX6_readPart wsX6_readerAt := goodIn_ca (goodIn_r _ [9, 10, 11, 12, 54, 55, 56, 57, 58, 59, 60] (by decide +kernel) (by decide +kernel)) (goodIn_sub (fun _ h => List.mem_cons_of_mem _ (List.mem_append_left _ (List.mem_append_left _ (List.mem_append_left _ (List.mem_append_right _ h))))) (by decide +kernel))
set_option maxRecDepth 20000 in
theorem gX6_readPart_X6_readerAt : GoodIn wsX6_readPart (wsV RX6 128 RX6 yX6_readerAt wsX6_readerAt) := goodIn_app (goodIn_of _ (by decide +kernel)) ggX6_readPart_X6_readerAt
set_option maxRecDepth 20000 in
theorem ggX6_readPart_X6_signRowAt : GoodIn wsX6_readPart wsX6_signRowAt := goodIn_ca (goodIn_r _ [16, 10, 11, 17, 54, 55, 56, 57, 58, 59, 60] (by decide +kernel) (by decide +kernel)) (goodIn_sub (fun _ h => List.mem_cons_of_mem _ (List.mem_append_left _ (List.mem_append_left _ (List.mem_append_left _ (List.mem_append_right _ h))))) (by decide +kernel))
set_option maxRecDepth 20000 in
theorem gX6_readPart_X6_signRowAt : GoodIn wsX6_readPart (wsV RX6 56 RX6 yX6_signRowAt wsX6_signRowAt) := goodIn_app (goodIn_of _ (by decide +kernel)) ggX6_readPart_X6_signRowAt
set_option maxRecDepth 20000 in
theorem ggX6_readPart_X6_requirePlaces : GoodIn wsX6_readPart wsX6_requirePlaces := goodIn_ca (goodIn_r _ [20, 10, 11] (by decide +kernel) (by decide +kernel)) (goodIn_sub (fun _ h => List.mem_cons_of_mem _ (List.mem_append_left _ (List.mem_append_left _ (List.mem_append_left _ (List.mem_append_right _ h))))) (by decide +kernel))
set_option maxRecDepth 20000 in
theorem gX6_readPart_X6_requirePlaces : GoodIn wsX6_readPart (va_wsS RX6 79 yX6_requirePlaces wsX6_requirePlaces) := goodIn_app (goodIn_of _ (by decide +kernel)) ggX6_readPart_X6_requirePlaces
set_option maxRecDepth 20000 in
theorem ggX6_readPart_X6_requireSome : GoodIn wsX6_readPart wsX6_requireSome := goodIn_ca (goodIn_r _ [23, 24, 25] (by decide +kernel) (by decide +kernel)) (goodIn_sub (fun _ h => List.mem_cons_of_mem _ (List.mem_append_left _ (List.mem_append_left _ (List.mem_append_right _ h)))) (by decide +kernel))
set_option maxRecDepth 20000 in
theorem gX6_readPart_X6_requireSome : GoodIn wsX6_readPart (va_wsS RX6 161 yX6_requireSome wsX6_requireSome) := goodIn_app (goodIn_of _ (by decide +kernel)) ggX6_readPart_X6_requireSome
set_option maxRecDepth 20000 in
theorem ggX6_readPart_X6_openReaderAt : GoodIn wsX6_readPart wsX6_openReaderAt := goodIn_ca (goodIn_ca (goodIn_r _ [29, 30, 31, 32, 33, 5, 6, 7, 8, 9, 10, 11, 12, 48, 49, 50, 51, 52, 53, 54, 55, 56, 57, 58, 59, 60] (by decide +kernel) (by decide +kernel)) (goodIn_sub (fun _ h => List.mem_cons_of_mem _ (List.mem_append_left _ (List.mem_append_right _ h))) (by decide +kernel))) (goodIn_sub (fun _ h => List.mem_cons_of_mem _ (List.mem_append_left _ (List.mem_append_left _ (List.mem_append_left _ (List.mem_append_right _ h))))) (by decide +kernel))
set_option maxRecDepth 20000 in
theorem gX6_readPart_X6_openReaderAt : GoodIn wsX6_readPart (wsV RX6 155 RX6 yX6_openReaderAt wsX6_openReaderAt) := goodIn_app (goodIn_of _ (by decide +kernel)) ggX6_readPart_X6_openReaderAt
set_option maxRecDepth 20000 in
theorem ggX6_readPart_X2_readSome : GoodIn wsX6_readPart wsX2_readSome := goodIn_ca (goodIn_r _ [38, 39, 40, 41, 42, 43, 44, 45, 46, 48, 49, 50, 51, 52, 53, 47] (by decide +kernel) (by decide +kernel)) (goodIn_sub (fun _ h => List.mem_cons_of_mem _ (List.mem_append_right _ h)) (by decide +kernel))
set_option maxRecDepth 20000 in
theorem gX6_readPart_X2_readSome : GoodIn wsX6_readPart (wsV RX6 173 RX2 yX2_readSome wsX2_readSome) := goodIn_app (goodIn_of _ (by decide +kernel)) ggX6_readPart_X2_readSome
theorem dX6_readPart_0 : decode cX6_readPart 0 = .ok (.aload_n 0, 1) := by decide +kernel
theorem dX6_readPart_1 : decode cX6_readPart 1 = .ok (.iload_n 1, 1) := by decide +kernel
theorem dX6_readPart_2 : decode cX6_readPart 2 = .ok (.invokevirtual 128, 3) := by decide +kernel
theorem dX6_readPart_5 : decode cX6_readPart 5 = .ok (.pop, 1) := by decide +kernel
theorem dX6_readPart_6 : decode cX6_readPart 6 = .ok (.aload_n 0, 1) := by decide +kernel
theorem dX6_readPart_7 : decode cX6_readPart 7 = .ok (.iload_n 2, 1) := by decide +kernel
theorem dX6_readPart_8 : decode cX6_readPart 8 = .ok (.invokevirtual 56, 3) := by decide +kernel
theorem dX6_readPart_11 : decode cX6_readPart 11 = .ok (.astore 5, 2) := by decide +kernel
theorem dX6_readPart_13 : decode cX6_readPart 13 = .ok (.iload_n 3, 1) := by decide +kernel
theorem dX6_readPart_14 : decode cX6_readPart 14 = .ok (.iload 4, 2) := by decide +kernel
theorem dX6_readPart_16 : decode cX6_readPart 16 = .ok (.aload 5, 2) := by decide +kernel
theorem dX6_readPart_18 : decode cX6_readPart 18 = .ok (.getfield 60, 3) := by decide +kernel
theorem dX6_readPart_21 : decode cX6_readPart 21 = .ok (.arraylength, 1) := by decide +kernel
theorem dX6_readPart_22 : decode cX6_readPart 22 = .ok (.invokestatic 79, 3) := by decide +kernel
theorem dX6_readPart_25 : decode cX6_readPart 25 = .ok (.iload 4, 2) := by decide +kernel
theorem dX6_readPart_27 : decode cX6_readPart 27 = .ok (.invokestatic 161, 3) := by decide +kernel
theorem dX6_readPart_30 : decode cX6_readPart 30 = .ok (.aload_n 0, 1) := by decide +kernel
theorem dX6_readPart_31 : decode cX6_readPart 31 = .ok (.iload_n 1, 1) := by decide +kernel
theorem dX6_readPart_32 : decode cX6_readPart 32 = .ok (.invokevirtual 155, 3) := by decide +kernel
theorem dX6_readPart_35 : decode cX6_readPart 35 = .ok (.astore 6, 2) := by decide +kernel
theorem dX6_readPart_37 : decode cX6_readPart 37 = .ok (.aload 6, 2) := by decide +kernel
theorem dX6_readPart_39 : decode cX6_readPart 39 = .ok (.getfield 164, 3) := by decide +kernel
theorem dX6_readPart_42 : decode cX6_readPart 42 = .ok (.aload 5, 2) := by decide +kernel
theorem dX6_readPart_44 : decode cX6_readPart 44 = .ok (.if_acmp .ne 13, 3) := by decide +kernel
theorem dX6_readPart_47 : decode cX6_readPart 47 = .ok (.new 168, 3) := by decide +kernel
theorem dX6_readPart_50 : decode cX6_readPart 50 = .ok (.dup, 1) := by decide +kernel
theorem dX6_readPart_51 : decode cX6_readPart 51 = .ok (.ldc 170, 2) := by decide +kernel
theorem dX6_readPart_53 : decode cX6_readPart 53 = .ok (.invokespecial 172, 3) := by decide +kernel
theorem dX6_readPart_56 : decode cX6_readPart 56 = .ok (.athrow, 1) := by decide +kernel
theorem dX6_readPart_57 : decode cX6_readPart 57 = .ok (.aload 6, 2) := by decide +kernel
theorem dX6_readPart_59 : decode cX6_readPart 59 = .ok (.aload 5, 2) := by decide +kernel
theorem dX6_readPart_61 : decode cX6_readPart 61 = .ok (.getfield 60, 3) := by decide +kernel
theorem dX6_readPart_64 : decode cX6_readPart 64 = .ok (.iload_n 3, 1) := by decide +kernel
theorem dX6_readPart_65 : decode cX6_readPart 65 = .ok (.iload 4, 2) := by decide +kernel
theorem dX6_readPart_67 : decode cX6_readPart 67 = .ok (.invokevirtual 173, 3) := by decide +kernel
theorem dX6_readPart_70 : decode cX6_readPart 70 = .ok (.ireturn, 1) := by decide +kernel
set_option maxRecDepth 20000 in
theorem ggX6_skip_X6_openReaderAt : GoodIn wsX6_skip wsX6_openReaderAt := goodIn_ca (goodIn_ca (goodIn_r _ [5, 6, 7, 8, 9, 10, 11, 12, 4, 13, 14, 15, 16, 31, 32, 33, 34, 35, 36, 37, 38, 39, 40, 41, 42, 43] (by decide +kernel) (by decide +kernel)) (goodIn_sub (fun _ h => List.mem_cons_of_mem _ (List.mem_append_left _ (List.mem_append_right _ h))) (by decide +kernel))) (goodIn_sub (fun _ h => List.mem_cons_of_mem _ (List.mem_append_right _ h)) (by decide +kernel))
set_option maxRecDepth 20000 in
theorem gX6_skip_X6_openReaderAt : GoodIn wsX6_skip (wsV RX6 155 RX6 yX6_openReaderAt wsX6_openReaderAt) := goodIn_app (goodIn_of _ (by decide +kernel)) ggX6_skip_X6_openReaderAt
set_option maxRecDepth 20000 in
theorem ggX6_skip_X2_skipSome : GoodIn wsX6_skip wsX2_skipSome := goodIn_r _ [21, 22, 23, 24, 25, 26, 27, 28, 29, 30, 31, 32, 33, 34, 35, 36] (by decide +kernel) (by decide +kernel)
set_option maxRecDepth 20000 in
theorem gX6_skip_X2_skipSome : GoodIn wsX6_skip (wsV RX6 177 RX2 yX2_skipSome wsX2_skipSome) := goodIn_app (goodIn_of _ (by decide +kernel)) ggX6_skip_X2_skipSome
theorem dX6_skip_0 : decode cX6_skip 0 = .ok (.aload_n 0, 1) := by decide +kernel
theorem dX6_skip_1 : decode cX6_skip 1 = .ok (.iload_n 1, 1) := by decide +kernel
theorem dX6_skip_2 : decode cX6_skip 2 = .ok (.invokevirtual 155, 3) := by decide +kernel
theorem dX6_skip_5 : decode cX6_skip 5 = .ok (.lload_n 2, 1) := by decide +kernel
theorem dX6_skip_6 : decode cX6_skip 6 = .ok (.invokevirtual 177, 3) := by decide +kernel
theorem dX6_skip_9 : decode cX6_skip 9 = .ok (.lreturn, 1) := by decide +kernel
set_option maxRecDepth 20000 in
theorem ggX6_mark_X6_readerAt : GoodIn wsX6_mark wsX6_readerAt := goodIn_ca (goodIn_r _ [9, 10, 11, 12, 34, 35, 36, 37, 38, 39, 40] (by decide +kernel) (by decide +kernel)) (goodIn_sub (fun _ h => List.mem_cons_of_mem _ (List.mem_append_left _ (List.mem_append_right _ h))) (by decide +kernel))
set_option maxRecDepth 20000 in
theorem gX6_mark_X6_readerAt : GoodIn wsX6_mark (wsV RX6 128 RX6 yX6_readerAt wsX6_readerAt) := goodIn_app (goodIn_of _ (by decide +kernel)) ggX6_mark_X6_readerAt
set_option maxRecDepth 20000 in
theorem ggX6_mark_X6_openReaderAt : GoodIn wsX6_mark wsX6_openReaderAt := goodIn_ca (goodIn_ca (goodIn_r _ [16, 17, 18, 19, 20, 5, 6, 7, 8, 9, 10, 11, 12, 28, 29, 30, 31, 32, 33, 34, 35, 36, 37, 38, 39, 40] (by decide +kernel) (by decide +kernel)) (goodIn_sub (fun _ h => List.mem_cons_of_mem _ (List.mem_append_right _ h)) (by decide +kernel))) (goodIn_sub (fun _ h => List.mem_cons_of_mem _ (List.mem_append_left _ (List.mem_append_right _ h))) (by decide +kernel))
set_option maxRecDepth 20000 in
theorem gX6_mark_X6_openReaderAt : GoodIn wsX6_mark (wsV RX6 155 RX6 yX6_openReaderAt wsX6_openReaderAt) := goodIn_app (goodIn_of _ (by decide +kernel)) ggX6_mark_X6_openReaderAt
set_option maxRecDepth 20000 in
theorem ggX6_mark_X2_countRest : GoodIn wsX6_mark wsX2_countRest := goodIn_r _ [25, 26, 27, 28, 29, 30, 31, 32, 33] (by decide +kernel) (by decide +kernel)
set_option maxRecDepth 20000 in
theorem gX6_mark_X2_countRest : GoodIn wsX6_mark (wsV RX6 140 RX2 yX2_countRest wsX2_countRest) := goodIn_app (goodIn_of _ (by decide +kernel)) ggX6_mark_X2_countRest
theorem dX6_mark_0 : decode cX6_mark 0 = .ok (.aload_n 0, 1) := by decide +kernel
theorem dX6_mark_1 : decode cX6_mark 1 = .ok (.iload_n 1, 1) := by decide +kernel
theorem dX6_mark_2 : decode cX6_mark 2 = .ok (.invokevirtual 128, 3) := by decide +kernel
theorem dX6_mark_5 : decode cX6_mark 5 = .ok (.pop, 1) := by decide +kernel
theorem dX6_mark_6 : decode cX6_mark 6 = .ok (.iload_n 2, 1) := by decide +kernel
theorem dX6_mark_7 : decode cX6_mark 7 = .ok (.ifCond .ge 13, 3) := by decide +kernel
theorem dX6_mark_10 : decode cX6_mark 10 = .ok (.new 64, 3) := by decide +kernel
theorem dX6_mark_13 : decode cX6_mark 13 = .ok (.dup, 1) := by decide +kernel
theorem dX6_mark_14 : decode cX6_mark 14 = .ok (.ldc 181, 2) := by decide +kernel
theorem dX6_mark_16 : decode cX6_mark 16 = .ok (.invokespecial 68, 3) := by decide +kernel
theorem dX6_mark_19 : decode cX6_mark 19 = .ok (.athrow, 1) := by decide +kernel
theorem dX6_mark_20 : decode cX6_mark 20 = .ok (.aload_n 0, 1) := by decide +kernel
theorem dX6_mark_21 : decode cX6_mark 21 = .ok (.iload_n 1, 1) := by decide +kernel
theorem dX6_mark_22 : decode cX6_mark 22 = .ok (.invokevirtual 155, 3) := by decide +kernel
theorem dX6_mark_25 : decode cX6_mark 25 = .ok (.astore_n 3, 1) := by decide +kernel
theorem dX6_mark_26 : decode cX6_mark 26 = .ok (.aload_n 3, 1) := by decide +kernel
theorem dX6_mark_27 : decode cX6_mark 27 = .ok (.aload_n 3, 1) := by decide +kernel
theorem dX6_mark_28 : decode cX6_mark 28 = .ok (.getfield 183, 3) := by decide +kernel
theorem dX6_mark_31 : decode cX6_mark 31 = .ok (.putfield 186, 3) := by decide +kernel
theorem dX6_mark_34 : decode cX6_mark 34 = .ok (.aload_n 3, 1) := by decide +kernel
theorem dX6_mark_35 : decode cX6_mark 35 = .ok (.invokevirtual 140, 3) := by decide +kernel
theorem dX6_mark_38 : decode cX6_mark 38 = .ok (.ireturn, 1) := by decide +kernel
set_option maxRecDepth 20000 in
theorem ggX6_back_X6_openReaderAt : GoodIn wsX6_back wsX6_openReaderAt := goodIn_ca (goodIn_ca (goodIn_r _ [7, 8, 9, 10, 11, 12, 13, 14, 6, 15, 16, 17, 18, 26, 27, 28, 29, 30, 31, 32, 33, 34, 35, 36, 37, 38] (by decide +kernel) (by decide +kernel)) (goodIn_sub (fun _ h => List.mem_cons_of_mem _ (List.mem_append_left _ (List.mem_append_right _ h))) (by decide +kernel))) (goodIn_sub (fun _ h => List.mem_cons_of_mem _ (List.mem_append_right _ h)) (by decide +kernel))
set_option maxRecDepth 20000 in
theorem gX6_back_X6_openReaderAt : GoodIn wsX6_back (wsV RX6 155 RX6 yX6_openReaderAt wsX6_openReaderAt) := goodIn_app (goodIn_of _ (by decide +kernel)) ggX6_back_X6_openReaderAt
set_option maxRecDepth 20000 in
theorem ggX6_back_X2_countRest : GoodIn wsX6_back wsX2_countRest := goodIn_r _ [23, 24, 25, 26, 27, 28, 29, 30, 31] (by decide +kernel) (by decide +kernel)
set_option maxRecDepth 20000 in
theorem gX6_back_X2_countRest : GoodIn wsX6_back (wsV RX6 140 RX2 yX2_countRest wsX2_countRest) := goodIn_app (goodIn_of _ (by decide +kernel)) ggX6_back_X2_countRest
theorem dX6_back_0 : decode cX6_back 0 = .ok (.aload_n 0, 1) := by decide +kernel
theorem dX6_back_1 : decode cX6_back 1 = .ok (.iload_n 1, 1) := by decide +kernel
theorem dX6_back_2 : decode cX6_back 2 = .ok (.invokevirtual 155, 3) := by decide +kernel
theorem dX6_back_5 : decode cX6_back 5 = .ok (.astore_n 2, 1) := by decide +kernel
theorem dX6_back_6 : decode cX6_back 6 = .ok (.aload_n 2, 1) := by decide +kernel
theorem dX6_back_7 : decode cX6_back 7 = .ok (.aload_n 2, 1) := by decide +kernel
theorem dX6_back_8 : decode cX6_back 8 = .ok (.getfield 186, 3) := by decide +kernel
theorem dX6_back_11 : decode cX6_back 11 = .ok (.putfield 183, 3) := by decide +kernel
theorem dX6_back_14 : decode cX6_back 14 = .ok (.aload_n 2, 1) := by decide +kernel
theorem dX6_back_15 : decode cX6_back 15 = .ok (.invokevirtual 140, 3) := by decide +kernel
theorem dX6_back_18 : decode cX6_back 18 = .ok (.ireturn, 1) := by decide +kernel
set_option maxRecDepth 20000 in
theorem ggX6_isTrue_X5_holdsForWriter : GoodIn wsX6_isTrue wsX5_holdsForWriter := goodIn_ca (goodIn_r _ [9, 10, 11, 12, 8, 13, 14, 15, 16, 17, 18, 19, 20, 21, 22, 23, 24, 25, 26, 27, 28, 29, 30, 31, 32, 33, 34, 35, 36, 37, 38, 39, 40, 41, 42, 43, 44, 45, 46, 47, 48, 49, 50, 51, 52, 53, 54, 55, 56, 57, 58, 59, 60, 61, 62, 63, 64, 65, 66, 67, 68, 69, 70, 71, 72, 73, 74, 75, 76, 77, 138, 139, 140, 141, 142, 143, 144, 145, 146, 147, 148, 149, 150, 151, 152, 153, 154] (by decide +kernel) (by decide +kernel)) (goodIn_sub (fun _ h => List.mem_cons_of_mem _ (List.mem_append_right _ h)) (by decide +kernel))
set_option maxRecDepth 20000 in
theorem gX6_isTrue_X5_holdsForWriter : GoodIn wsX6_isTrue (wsV RX6 253 RX5 yX5_holdsForWriter wsX5_holdsForWriter) := goodIn_app (goodIn_of _ (by decide +kernel)) ggX6_isTrue_X5_holdsForWriter
set_option maxRecDepth 20000 in
theorem ggX6_isTrue_X5_holdsForRows : GoodIn wsX6_isTrue wsX5_holdsForRows := goodIn_ca (goodIn_r _ [81, 82, 83, 84, 85, 86, 8, 87, 88, 89, 90, 91, 92, 93, 94, 95, 96, 97, 98, 99, 100, 101, 102, 103, 104, 105, 106, 107, 108, 109, 110, 111, 112, 113, 114, 115, 116, 117, 118, 119, 120, 121, 122, 123, 124, 125, 126, 127, 128, 129, 130, 39, 40, 41, 155, 140, 141, 142, 143, 144, 145, 146, 147, 156, 157, 158, 159, 160, 161] (by decide +kernel) (by decide +kernel)) (goodIn_sub (fun _ h => List.mem_cons_of_mem _ (List.mem_append_right _ h)) (by decide +kernel))
set_option maxRecDepth 20000 in
theorem gX6_isTrue_X5_holdsForRows : GoodIn wsX6_isTrue (wsV RX6 256 RX5 yX5_holdsForRows wsX5_holdsForRows) := goodIn_app (goodIn_of _ (by decide +kernel)) ggX6_isTrue_X5_holdsForRows
theorem dX6_isTrue_0 : decode cX6_isTrue 0 = .ok (.iconst 0, 1) := by decide +kernel
theorem dX6_isTrue_1 : decode cX6_isTrue 1 = .ok (.istore_n 1, 1) := by decide +kernel
theorem dX6_isTrue_2 : decode cX6_isTrue 2 = .ok (.iload_n 1, 1) := by decide +kernel
theorem dX6_isTrue_3 : decode cX6_isTrue 3 = .ok (.iconst 3, 1) := by decide +kernel
theorem dX6_isTrue_4 : decode cX6_isTrue 4 = .ok (.if_icmp .ge 43, 3) := by decide +kernel
theorem dX6_isTrue_7 : decode cX6_isTrue 7 = .ok (.aload_n 0, 1) := by decide +kernel
theorem dX6_isTrue_8 : decode cX6_isTrue 8 = .ok (.getfield 52, 3) := by decide +kernel
theorem dX6_isTrue_11 : decode cX6_isTrue 11 = .ok (.aload_n 0, 1) := by decide +kernel
theorem dX6_isTrue_12 : decode cX6_isTrue 12 = .ok (.getfield 27, 3) := by decide +kernel
theorem dX6_isTrue_15 : decode cX6_isTrue 15 = .ok (.iload_n 1, 1) := by decide +kernel
theorem dX6_isTrue_16 : decode cX6_isTrue 16 = .ok (.aaload, 1) := by decide +kernel
theorem dX6_isTrue_17 : decode cX6_isTrue 17 = .ok (.invokevirtual 253, 3) := by decide +kernel
theorem dX6_isTrue_20 : decode cX6_isTrue 20 = .ok (.ifCond .eq 19, 3) := by decide +kernel
theorem dX6_isTrue_23 : decode cX6_isTrue 23 = .ok (.aload_n 0, 1) := by decide +kernel
theorem dX6_isTrue_24 : decode cX6_isTrue 24 = .ok (.getfield 52, 3) := by decide +kernel
theorem dX6_isTrue_27 : decode cX6_isTrue 27 = .ok (.aload_n 0, 1) := by decide +kernel
theorem dX6_isTrue_28 : decode cX6_isTrue 28 = .ok (.getfield 31, 3) := by decide +kernel
theorem dX6_isTrue_31 : decode cX6_isTrue 31 = .ok (.iload_n 1, 1) := by decide +kernel
theorem dX6_isTrue_32 : decode cX6_isTrue 32 = .ok (.aaload, 1) := by decide +kernel
theorem dX6_isTrue_33 : decode cX6_isTrue 33 = .ok (.invokevirtual 253, 3) := by decide +kernel
theorem dX6_isTrue_36 : decode cX6_isTrue 36 = .ok (.ifCond .ne 5, 3) := by decide +kernel
theorem dX6_isTrue_39 : decode cX6_isTrue 39 = .ok (.iconst 0, 1) := by decide +kernel
theorem dX6_isTrue_40 : decode cX6_isTrue 40 = .ok (.ireturn, 1) := by decide +kernel
theorem dX6_isTrue_41 : decode cX6_isTrue 41 = .ok (.iinc 1 1, 3) := by decide +kernel
theorem dX6_isTrue_44 : decode cX6_isTrue 44 = .ok (.goto (-42), 3) := by decide +kernel
theorem dX6_isTrue_47 : decode cX6_isTrue 47 = .ok (.iconst 0, 1) := by decide +kernel
theorem dX6_isTrue_48 : decode cX6_isTrue 48 = .ok (.istore_n 1, 1) := by decide +kernel
theorem dX6_isTrue_49 : decode cX6_isTrue 49 = .ok (.iload_n 1, 1) := by decide +kernel
theorem dX6_isTrue_50 : decode cX6_isTrue 50 = .ok (.iconst 4, 1) := by decide +kernel
theorem dX6_isTrue_51 : decode cX6_isTrue 51 = .ok (.if_icmp .ge 51, 3) := by decide +kernel
theorem dX6_isTrue_54 : decode cX6_isTrue 54 = .ok (.aload_n 0, 1) := by decide +kernel
theorem dX6_isTrue_55 : decode cX6_isTrue 55 = .ok (.getfield 20, 3) := by decide +kernel
theorem dX6_isTrue_58 : decode cX6_isTrue 58 = .ok (.iload_n 1, 1) := by decide +kernel
theorem dX6_isTrue_59 : decode cX6_isTrue 59 = .ok (.iconst 1, 1) := by decide +kernel
theorem dX6_isTrue_60 : decode cX6_isTrue 60 = .ok (.iadd, 1) := by decide +kernel
theorem dX6_isTrue_61 : decode cX6_isTrue 61 = .ok (.iconst 4, 1) := by decide +kernel
theorem dX6_isTrue_62 : decode cX6_isTrue 62 = .ok (.irem, 1) := by decide +kernel
theorem dX6_isTrue_63 : decode cX6_isTrue 63 = .ok (.aaload, 1) := by decide +kernel
theorem dX6_isTrue_64 : decode cX6_isTrue 64 = .ok (.astore_n 2, 1) := by decide +kernel
theorem dX6_isTrue_65 : decode cX6_isTrue 65 = .ok (.aload_n 0, 1) := by decide +kernel
theorem dX6_isTrue_66 : decode cX6_isTrue 66 = .ok (.getfield 20, 3) := by decide +kernel
theorem dX6_isTrue_69 : decode cX6_isTrue 69 = .ok (.iload_n 1, 1) := by decide +kernel
theorem dX6_isTrue_70 : decode cX6_isTrue 70 = .ok (.iconst 2, 1) := by decide +kernel
theorem dX6_isTrue_71 : decode cX6_isTrue 71 = .ok (.iadd, 1) := by decide +kernel
theorem dX6_isTrue_72 : decode cX6_isTrue 72 = .ok (.iconst 4, 1) := by decide +kernel
theorem dX6_isTrue_73 : decode cX6_isTrue 73 = .ok (.irem, 1) := by decide +kernel
theorem dX6_isTrue_74 : decode cX6_isTrue 74 = .ok (.aaload, 1) := by decide +kernel
theorem dX6_isTrue_75 : decode cX6_isTrue 75 = .ok (.astore_n 3, 1) := by decide +kernel
theorem dX6_isTrue_76 : decode cX6_isTrue 76 = .ok (.aload_n 0, 1) := by decide +kernel
theorem dX6_isTrue_77 : decode cX6_isTrue 77 = .ok (.getfield 52, 3) := by decide +kernel
theorem dX6_isTrue_80 : decode cX6_isTrue 80 = .ok (.aload_n 0, 1) := by decide +kernel
theorem dX6_isTrue_81 : decode cX6_isTrue 81 = .ok (.getfield 20, 3) := by decide +kernel
theorem dX6_isTrue_84 : decode cX6_isTrue 84 = .ok (.iload_n 1, 1) := by decide +kernel
theorem dX6_isTrue_85 : decode cX6_isTrue 85 = .ok (.aaload, 1) := by decide +kernel
theorem dX6_isTrue_86 : decode cX6_isTrue 86 = .ok (.aload_n 2, 1) := by decide +kernel
theorem dX6_isTrue_87 : decode cX6_isTrue 87 = .ok (.aload_n 3, 1) := by decide +kernel
theorem dX6_isTrue_88 : decode cX6_isTrue 88 = .ok (.invokevirtual 256, 3) := by decide +kernel
theorem dX6_isTrue_91 : decode cX6_isTrue 91 = .ok (.ifCond .ne 5, 3) := by decide +kernel
theorem dX6_isTrue_94 : decode cX6_isTrue 94 = .ok (.iconst 0, 1) := by decide +kernel
theorem dX6_isTrue_95 : decode cX6_isTrue 95 = .ok (.ireturn, 1) := by decide +kernel
theorem dX6_isTrue_96 : decode cX6_isTrue 96 = .ok (.iinc 1 1, 3) := by decide +kernel
theorem dX6_isTrue_99 : decode cX6_isTrue 99 = .ok (.goto (-50), 3) := by decide +kernel
theorem dX6_isTrue_102 : decode cX6_isTrue 102 = .ok (.iconst 1, 1) := by decide +kernel
theorem dX6_isTrue_103 : decode cX6_isTrue 103 = .ok (.ireturn, 1) := by decide +kernel
theorem dX6_signRowAt_0 : decode cX6_signRowAt 0 = .ok (.iload_n 1, 1) := by decide +kernel
theorem dX6_signRowAt_1 : decode cX6_signRowAt 1 = .ok (.ifCond .lt 8, 3) := by decide +kernel
theorem dX6_signRowAt_4 : decode cX6_signRowAt 4 = .ok (.iload_n 1, 1) := by decide +kernel
theorem dX6_signRowAt_5 : decode cX6_signRowAt 5 = .ok (.iconst 4, 1) := by decide +kernel
theorem dX6_signRowAt_6 : decode cX6_signRowAt 6 = .ok (.if_icmp .lt 14, 3) := by decide +kernel
theorem dX6_signRowAt_9 : decode cX6_signRowAt 9 = .ok (.new 260, 3) := by decide +kernel
theorem dX6_signRowAt_12 : decode cX6_signRowAt 12 = .ok (.dup, 1) := by decide +kernel
theorem dX6_signRowAt_13 : decode cX6_signRowAt 13 = .ok (.ldc_w 262, 3) := by decide +kernel
theorem dX6_signRowAt_16 : decode cX6_signRowAt 16 = .ok (.invokespecial 264, 3) := by decide +kernel
theorem dX6_signRowAt_19 : decode cX6_signRowAt 19 = .ok (.athrow, 1) := by decide +kernel
theorem dX6_signRowAt_20 : decode cX6_signRowAt 20 = .ok (.aload_n 0, 1) := by decide +kernel
theorem dX6_signRowAt_21 : decode cX6_signRowAt 21 = .ok (.getfield 11, 3) := by decide +kernel
theorem dX6_signRowAt_24 : decode cX6_signRowAt 24 = .ok (.iload_n 1, 1) := by decide +kernel
theorem dX6_signRowAt_25 : decode cX6_signRowAt 25 = .ok (.aaload, 1) := by decide +kernel
theorem dX6_signRowAt_26 : decode cX6_signRowAt 26 = .ok (.areturn, 1) := by decide +kernel
theorem dX6_textWriterAt_0 : decode cX6_textWriterAt 0 = .ok (.iload_n 1, 1) := by decide +kernel
theorem dX6_textWriterAt_1 : decode cX6_textWriterAt 1 = .ok (.ifCond .lt 8, 3) := by decide +kernel
theorem dX6_textWriterAt_4 : decode cX6_textWriterAt 4 = .ok (.iload_n 1, 1) := by decide +kernel
theorem dX6_textWriterAt_5 : decode cX6_textWriterAt 5 = .ok (.iconst 3, 1) := by decide +kernel
theorem dX6_textWriterAt_6 : decode cX6_textWriterAt 6 = .ok (.if_icmp .lt 14, 3) := by decide +kernel
theorem dX6_textWriterAt_9 : decode cX6_textWriterAt 9 = .ok (.new 260, 3) := by decide +kernel
theorem dX6_textWriterAt_12 : decode cX6_textWriterAt 12 = .ok (.dup, 1) := by decide +kernel
theorem dX6_textWriterAt_13 : decode cX6_textWriterAt 13 = .ok (.ldc_w 267, 3) := by decide +kernel
theorem dX6_textWriterAt_16 : decode cX6_textWriterAt 16 = .ok (.invokespecial 264, 3) := by decide +kernel
theorem dX6_textWriterAt_19 : decode cX6_textWriterAt 19 = .ok (.athrow, 1) := by decide +kernel
theorem dX6_textWriterAt_20 : decode cX6_textWriterAt 20 = .ok (.aload_n 0, 1) := by decide +kernel
theorem dX6_textWriterAt_21 : decode cX6_textWriterAt 21 = .ok (.getfield 27, 3) := by decide +kernel
theorem dX6_textWriterAt_24 : decode cX6_textWriterAt 24 = .ok (.iload_n 1, 1) := by decide +kernel
theorem dX6_textWriterAt_25 : decode cX6_textWriterAt 25 = .ok (.aaload, 1) := by decide +kernel
theorem dX6_textWriterAt_26 : decode cX6_textWriterAt 26 = .ok (.areturn, 1) := by decide +kernel
theorem dX6_arrayWriterAt_0 : decode cX6_arrayWriterAt 0 = .ok (.iload_n 1, 1) := by decide +kernel
theorem dX6_arrayWriterAt_1 : decode cX6_arrayWriterAt 1 = .ok (.ifCond .lt 8, 3) := by decide +kernel
theorem dX6_arrayWriterAt_4 : decode cX6_arrayWriterAt 4 = .ok (.iload_n 1, 1) := by decide +kernel
theorem dX6_arrayWriterAt_5 : decode cX6_arrayWriterAt 5 = .ok (.iconst 3, 1) := by decide +kernel
theorem dX6_arrayWriterAt_6 : decode cX6_arrayWriterAt 6 = .ok (.if_icmp .lt 14, 3) := by decide +kernel
theorem dX6_arrayWriterAt_9 : decode cX6_arrayWriterAt 9 = .ok (.new 260, 3) := by decide +kernel
theorem dX6_arrayWriterAt_12 : decode cX6_arrayWriterAt 12 = .ok (.dup, 1) := by decide +kernel
theorem dX6_arrayWriterAt_13 : decode cX6_arrayWriterAt 13 = .ok (.ldc_w 269, 3) := by decide +kernel
theorem dX6_arrayWriterAt_16 : decode cX6_arrayWriterAt 16 = .ok (.invokespecial 264, 3) := by decide +kernel
theorem dX6_arrayWriterAt_19 : decode cX6_arrayWriterAt 19 = .ok (.athrow, 1) := by decide +kernel
theorem dX6_arrayWriterAt_20 : decode cX6_arrayWriterAt 20 = .ok (.aload_n 0, 1) := by decide +kernel

theorem dX7_anew_21 : decode cX7_anew 21 = .ok (.goto (-19), 3) := by decide +kernel
theorem dX7_anew_24 : decode cX7_anew 24 = .ok (.aload_n 0, 1) := by decide +kernel
theorem dX7_anew_25 : decode cX7_anew 25 = .ok (.getfield 50, 3) := by decide +kernel
theorem dX7_anew_28 : decode cX7_anew 28 = .ok (.iload_n 1, 1) := by decide +kernel
theorem dX7_anew_29 : decode cX7_anew 29 = .ok (.iload_n 2, 1) := by decide +kernel
theorem dX7_anew_30 : decode cX7_anew 30 = .ok (.iastore, 1) := by decide +kernel
theorem dX7_anew_31 : decode cX7_anew 31 = .ok (.aload_n 0, 1) := by decide +kernel
theorem dX7_anew_32 : decode cX7_anew 32 = .ok (.getfield 59, 3) := by decide +kernel
theorem dX7_anew_35 : decode cX7_anew 35 = .ok (.iload_n 1, 1) := by decide +kernel
theorem dX7_anew_36 : decode cX7_anew 36 = .ok (.iconst 0, 1) := by decide +kernel
theorem dX7_anew_37 : decode cX7_anew 37 = .ok (.iastore, 1) := by decide +kernel
theorem dX7_anew_38 : decode cX7_anew 38 = .ok (.aload_n 0, 1) := by decide +kernel
theorem dX7_anew_39 : decode cX7_anew 39 = .ok (.getfield 62, 3) := by decide +kernel
theorem dX7_anew_42 : decode cX7_anew 42 = .ok (.iload_n 1, 1) := by decide +kernel
theorem dX7_anew_43 : decode cX7_anew 43 = .ok (.iconst 0, 1) := by decide +kernel
theorem dX7_anew_44 : decode cX7_anew 44 = .ok (.iastore, 1) := by decide +kernel
theorem dX7_anew_45 : decode cX7_anew 45 = .ok (.aload_n 0, 1) := by decide +kernel
theorem dX7_anew_46 : decode cX7_anew 46 = .ok (.getfield 65, 3) := by decide +kernel
theorem dX7_anew_49 : decode cX7_anew 49 = .ok (.iload_n 1, 1) := by decide +kernel
theorem dX7_anew_50 : decode cX7_anew 50 = .ok (.iconst 0, 1) := by decide +kernel
theorem dX7_anew_51 : decode cX7_anew 51 = .ok (.iastore, 1) := by decide +kernel
theorem dX7_anew_52 : decode cX7_anew 52 = .ok (.return_, 1) := by decide +kernel
set_option maxRecDepth 20000 in
theorem ggX7_join_X7_isStream : GoodIn wsX7_join wsX7_isStream := goodIn_r _ [6] (by decide +kernel) (by decide +kernel)
set_option maxRecDepth 20000 in
theorem gX7_join_X7_isStream : GoodIn wsX7_join (wsV RX7 146 RX7 yX7_isStream wsX7_isStream) := goodIn_app (goodIn_of _ (by decide +kernel)) ggX7_join_X7_isStream
set_option maxRecDepth 20000 in
theorem ggX7_join_X7_isRow : GoodIn wsX7_join wsX7_isRow := goodIn_r _ [10] (by decide +kernel) (by decide +kernel)
set_option maxRecDepth 20000 in
theorem gX7_join_X7_isRow : GoodIn wsX7_join (wsV RX7 75 RX7 yX7_isRow wsX7_isRow) := goodIn_app (goodIn_of _ (by decide +kernel)) ggX7_join_X7_isRow
set_option maxRecDepth 20000 in
theorem ggX7_join_X7_isWrong : GoodIn wsX7_join wsX7_isWrong := goodIn_r _ [14, 15, 31, 32, 33, 34, 35, 36, 37, 38, 39, 40, 41, 42, 43, 44, 45, 46, 47, 48, 49, 50, 51] (by decide +kernel) (by decide +kernel)
set_option maxRecDepth 20000 in
theorem gX7_join_X7_isWrong : GoodIn wsX7_join (wsV RX7 87 RX7 yX7_isWrong wsX7_isWrong) := goodIn_app (goodIn_of _ (by decide +kernel)) ggX7_join_X7_isWrong
set_option maxRecDepth 20000 in
theorem ggX7_join_X7_anew : GoodIn wsX7_join wsX7_anew := goodIn_ca (goodIn_r _ [19, 20, 21, 22, 1, 23, 31, 32, 33, 34, 35, 36, 37, 38, 39, 40, 41, 42, 43, 44, 45, 46, 47, 48, 49, 50, 51] (by decide +kernel) (by decide +kernel)) (goodIn_sub (fun _ h => List.mem_cons_of_mem _ (List.mem_append_right _ h)) (by decide +kernel))
set_option maxRecDepth 20000 in
theorem gX7_join_X7_anew : GoodIn wsX7_join (wsV RX7 149 RX7 yX7_anew wsX7_anew) := goodIn_app (goodIn_of _ (by decide +kernel)) ggX7_join_X7_anew
set_option maxRecDepth 20000 in
theorem ggX7_join_X7_begins : GoodIn wsX7_join wsX7_begins := goodIn_ca (goodIn_r _ [27, 20, 28, 29, 1, 30, 31, 32, 33, 34, 35, 36, 37, 38, 39, 40, 41, 42, 43, 44, 45, 46, 47, 48, 49, 50, 51] (by decide +kernel) (by decide +kernel)) (goodIn_sub (fun _ h => List.mem_cons_of_mem _ (List.mem_append_right _ h)) (by decide +kernel))
set_option maxRecDepth 20000 in
theorem gX7_join_X7_begins : GoodIn wsX7_join (wsV RX7 152 RX7 yX7_begins wsX7_begins) := goodIn_app (goodIn_of _ (by decide +kernel)) ggX7_join_X7_begins
theorem dX7_join_0 : decode cX7_join 0 = .ok (.aload_n 0, 1) := by decide +kernel
theorem dX7_join_1 : decode cX7_join 1 = .ok (.aload_n 0, 1) := by decide +kernel
theorem dX7_join_2 : decode cX7_join 2 = .ok (.iload_n 1, 1) := by decide +kernel
theorem dX7_join_3 : decode cX7_join 3 = .ok (.invokevirtual 146, 3) := by decide +kernel
theorem dX7_join_6 : decode cX7_join 6 = .ok (.ifCond .eq 23, 3) := by decide +kernel
theorem dX7_join_9 : decode cX7_join 9 = .ok (.aload_n 0, 1) := by decide +kernel
theorem dX7_join_10 : decode cX7_join 10 = .ok (.iload_n 2, 1) := by decide +kernel
theorem dX7_join_11 : decode cX7_join 11 = .ok (.invokevirtual 75, 3) := by decide +kernel
theorem dX7_join_14 : decode cX7_join 14 = .ok (.ifCond .eq 15, 3) := by decide +kernel
theorem dX7_join_17 : decode cX7_join 17 = .ok (.aload_n 0, 1) := by decide +kernel
theorem dX7_join_18 : decode cX7_join 18 = .ok (.iload_n 3, 1) := by decide +kernel
theorem dX7_join_19 : decode cX7_join 19 = .ok (.invokevirtual 75, 3) := by decide +kernel
theorem dX7_join_22 : decode cX7_join 22 = .ok (.ifCond .eq 7, 3) := by decide +kernel
theorem dX7_join_25 : decode cX7_join 25 = .ok (.iconst 0, 1) := by decide +kernel
theorem dX7_join_26 : decode cX7_join 26 = .ok (.goto 4, 3) := by decide +kernel
theorem dX7_join_29 : decode cX7_join 29 = .ok (.iconst 1, 1) := by decide +kernel
theorem dX7_join_30 : decode cX7_join 30 = .ok (.invokevirtual 87, 3) := by decide +kernel
theorem dX7_join_33 : decode cX7_join 33 = .ok (.ifCond .eq 5, 3) := by decide +kernel
theorem dX7_join_36 : decode cX7_join 36 = .ok (.iconst 0, 1) := by decide +kernel
theorem dX7_join_37 : decode cX7_join 37 = .ok (.ireturn, 1) := by decide +kernel
theorem dX7_join_38 : decode cX7_join 38 = .ok (.aload_n 0, 1) := by decide +kernel
theorem dX7_join_39 : decode cX7_join 39 = .ok (.iload_n 1, 1) := by decide +kernel
theorem dX7_join_40 : decode cX7_join 40 = .ok (.iconst 2, 1) := by decide +kernel
theorem dX7_join_41 : decode cX7_join 41 = .ok (.invokevirtual 149, 3) := by decide +kernel
theorem dX7_join_44 : decode cX7_join 44 = .ok (.aload_n 0, 1) := by decide +kernel
theorem dX7_join_45 : decode cX7_join 45 = .ok (.iload_n 1, 1) := by decide +kernel
theorem dX7_join_46 : decode cX7_join 46 = .ok (.iconst 0, 1) := by decide +kernel
theorem dX7_join_47 : decode cX7_join 47 = .ok (.iload_n 2, 1) := by decide +kernel
theorem dX7_join_48 : decode cX7_join 48 = .ok (.invokevirtual 152, 3) := by decide +kernel
theorem dX7_join_51 : decode cX7_join 51 = .ok (.aload_n 0, 1) := by decide +kernel
theorem dX7_join_52 : decode cX7_join 52 = .ok (.iload_n 1, 1) := by decide +kernel
theorem dX7_join_53 : decode cX7_join 53 = .ok (.iconst 1, 1) := by decide +kernel
theorem dX7_join_54 : decode cX7_join 54 = .ok (.iload_n 3, 1) := by decide +kernel
theorem dX7_join_55 : decode cX7_join 55 = .ok (.invokevirtual 152, 3) := by decide +kernel
theorem dX7_join_58 : decode cX7_join 58 = .ok (.aload_n 0, 1) := by decide +kernel
theorem dX7_join_59 : decode cX7_join 59 = .ok (.getfield 62, 3) := by decide +kernel
theorem dX7_join_62 : decode cX7_join 62 = .ok (.iload_n 1, 1) := by decide +kernel
theorem dX7_join_63 : decode cX7_join 63 = .ok (.iaload, 1) := by decide +kernel
theorem dX7_join_64 : decode cX7_join 64 = .ok (.ireturn, 1) := by decide +kernel
set_option maxRecDepth 20000 in
theorem ggX7_joinThree_X7_isStream : GoodIn wsX7_joinThree wsX7_isStream := goodIn_r _ [6] (by decide +kernel) (by decide +kernel)
set_option maxRecDepth 20000 in
theorem gX7_joinThree_X7_isStream : GoodIn wsX7_joinThree (wsV RX7 146 RX7 yX7_isStream wsX7_isStream) := goodIn_app (goodIn_of _ (by decide +kernel)) ggX7_joinThree_X7_isStream
set_option maxRecDepth 20000 in
theorem ggX7_joinThree_X7_isRow : GoodIn wsX7_joinThree wsX7_isRow := goodIn_r _ [10] (by decide +kernel) (by decide +kernel)
set_option maxRecDepth 20000 in
theorem gX7_joinThree_X7_isRow : GoodIn wsX7_joinThree (wsV RX7 75 RX7 yX7_isRow wsX7_isRow) := goodIn_app (goodIn_of _ (by decide +kernel)) ggX7_joinThree_X7_isRow
set_option maxRecDepth 20000 in
theorem ggX7_joinThree_X7_isWrong : GoodIn wsX7_joinThree wsX7_isWrong := goodIn_r _ [14, 15, 31, 32, 33, 34, 35, 36, 37, 38, 39, 40, 41, 42, 43, 44, 45, 46, 47, 48, 49, 50, 51] (by decide +kernel) (by decide +kernel)
set_option maxRecDepth 20000 in
theorem gX7_joinThree_X7_isWrong : GoodIn wsX7_joinThree (wsV RX7 87 RX7 yX7_isWrong wsX7_isWrong) := goodIn_app (goodIn_of _ (by decide +kernel)) ggX7_joinThree_X7_isWrong
set_option maxRecDepth 20000 in
theorem ggX7_joinThree_X7_anew : GoodIn wsX7_joinThree wsX7_anew := goodIn_ca (goodIn_r _ [19, 20, 21, 22, 1, 23, 31, 32, 33, 34, 35, 36, 37, 38, 39, 40, 41, 42, 43, 44, 45, 46, 47, 48, 49, 50, 51] (by decide +kernel) (by decide +kernel)) (goodIn_sub (fun _ h => List.mem_cons_of_mem _ (List.mem_append_right _ h)) (by decide +kernel))
set_option maxRecDepth 20000 in
theorem gX7_joinThree_X7_anew : GoodIn wsX7_joinThree (wsV RX7 149 RX7 yX7_anew wsX7_anew) := goodIn_app (goodIn_of _ (by decide +kernel)) ggX7_joinThree_X7_anew
set_option maxRecDepth 20000 in
theorem ggX7_joinThree_X7_begins : GoodIn wsX7_joinThree wsX7_begins := goodIn_ca (goodIn_r _ [27, 20, 28, 29, 1, 30, 31, 32, 33, 34, 35, 36, 37, 38, 39, 40, 41, 42, 43, 44, 45, 46, 47, 48, 49, 50, 51] (by decide +kernel) (by decide +kernel)) (goodIn_sub (fun _ h => List.mem_cons_of_mem _ (List.mem_append_right _ h)) (by decide +kernel))
set_option maxRecDepth 20000 in
theorem gX7_joinThree_X7_begins : GoodIn wsX7_joinThree (wsV RX7 152 RX7 yX7_begins wsX7_begins) := goodIn_app (goodIn_of _ (by decide +kernel)) ggX7_joinThree_X7_begins
theorem dX7_joinThree_0 : decode cX7_joinThree 0 = .ok (.aload_n 0, 1) := by decide +kernel
theorem dX7_joinThree_1 : decode cX7_joinThree 1 = .ok (.aload_n 0, 1) := by decide +kernel
theorem dX7_joinThree_2 : decode cX7_joinThree 2 = .ok (.iload_n 1, 1) := by decide +kernel
theorem dX7_joinThree_3 : decode cX7_joinThree 3 = .ok (.invokevirtual 146, 3) := by decide +kernel
theorem dX7_joinThree_6 : decode cX7_joinThree 6 = .ok (.ifCond .eq 32, 3) := by decide +kernel
theorem dX7_joinThree_9 : decode cX7_joinThree 9 = .ok (.aload_n 0, 1) := by decide +kernel
theorem dX7_joinThree_10 : decode cX7_joinThree 10 = .ok (.iload_n 2, 1) := by decide +kernel
theorem dX7_joinThree_11 : decode cX7_joinThree 11 = .ok (.invokevirtual 75, 3) := by decide +kernel
theorem dX7_joinThree_14 : decode cX7_joinThree 14 = .ok (.ifCond .eq 24, 3) := by decide +kernel
theorem dX7_joinThree_17 : decode cX7_joinThree 17 = .ok (.aload_n 0, 1) := by decide +kernel
theorem dX7_joinThree_18 : decode cX7_joinThree 18 = .ok (.iload_n 3, 1) := by decide +kernel
theorem dX7_joinThree_19 : decode cX7_joinThree 19 = .ok (.invokevirtual 75, 3) := by decide +kernel
theorem dX7_joinThree_22 : decode cX7_joinThree 22 = .ok (.ifCond .eq 16, 3) := by decide +kernel
theorem dX7_joinThree_25 : decode cX7_joinThree 25 = .ok (.aload_n 0, 1) := by decide +kernel
theorem dX7_joinThree_26 : decode cX7_joinThree 26 = .ok (.iload 4, 2) := by decide +kernel
theorem dX7_joinThree_28 : decode cX7_joinThree 28 = .ok (.invokevirtual 75, 3) := by decide +kernel
theorem dX7_joinThree_31 : decode cX7_joinThree 31 = .ok (.ifCond .eq 7, 3) := by decide +kernel
theorem dX7_joinThree_34 : decode cX7_joinThree 34 = .ok (.iconst 0, 1) := by decide +kernel
theorem dX7_joinThree_35 : decode cX7_joinThree 35 = .ok (.goto 4, 3) := by decide +kernel
theorem dX7_joinThree_38 : decode cX7_joinThree 38 = .ok (.iconst 1, 1) := by decide +kernel
theorem dX7_joinThree_39 : decode cX7_joinThree 39 = .ok (.invokevirtual 87, 3) := by decide +kernel
theorem dX7_joinThree_42 : decode cX7_joinThree 42 = .ok (.ifCond .eq 5, 3) := by decide +kernel
theorem dX7_joinThree_45 : decode cX7_joinThree 45 = .ok (.iconst 0, 1) := by decide +kernel
theorem dX7_joinThree_46 : decode cX7_joinThree 46 = .ok (.ireturn, 1) := by decide +kernel
theorem dX7_joinThree_47 : decode cX7_joinThree 47 = .ok (.aload_n 0, 1) := by decide +kernel
theorem dX7_joinThree_48 : decode cX7_joinThree 48 = .ok (.iload_n 1, 1) := by decide +kernel
theorem dX7_joinThree_49 : decode cX7_joinThree 49 = .ok (.iconst 3, 1) := by decide +kernel
theorem dX7_joinThree_50 : decode cX7_joinThree 50 = .ok (.invokevirtual 149, 3) := by decide +kernel
theorem dX7_joinThree_53 : decode cX7_joinThree 53 = .ok (.aload_n 0, 1) := by decide +kernel
theorem dX7_joinThree_54 : decode cX7_joinThree 54 = .ok (.iload_n 1, 1) := by decide +kernel
theorem dX7_joinThree_55 : decode cX7_joinThree 55 = .ok (.iconst 0, 1) := by decide +kernel
theorem dX7_joinThree_56 : decode cX7_joinThree 56 = .ok (.iload_n 2, 1) := by decide +kernel
theorem dX7_joinThree_57 : decode cX7_joinThree 57 = .ok (.invokevirtual 152, 3) := by decide +kernel
theorem dX7_joinThree_60 : decode cX7_joinThree 60 = .ok (.aload_n 0, 1) := by decide +kernel
theorem dX7_joinThree_61 : decode cX7_joinThree 61 = .ok (.iload_n 1, 1) := by decide +kernel
theorem dX7_joinThree_62 : decode cX7_joinThree 62 = .ok (.iconst 1, 1) := by decide +kernel
theorem dX7_joinThree_63 : decode cX7_joinThree 63 = .ok (.iload_n 3, 1) := by decide +kernel
theorem dX7_joinThree_64 : decode cX7_joinThree 64 = .ok (.invokevirtual 152, 3) := by decide +kernel
theorem dX7_joinThree_67 : decode cX7_joinThree 67 = .ok (.aload_n 0, 1) := by decide +kernel
theorem dX7_joinThree_68 : decode cX7_joinThree 68 = .ok (.iload_n 1, 1) := by decide +kernel
theorem dX7_joinThree_69 : decode cX7_joinThree 69 = .ok (.iconst 2, 1) := by decide +kernel
theorem dX7_joinThree_70 : decode cX7_joinThree 70 = .ok (.iload 4, 2) := by decide +kernel
theorem dX7_joinThree_72 : decode cX7_joinThree 72 = .ok (.invokevirtual 152, 3) := by decide +kernel
theorem dX7_joinThree_75 : decode cX7_joinThree 75 = .ok (.aload_n 0, 1) := by decide +kernel
theorem dX7_joinThree_76 : decode cX7_joinThree 76 = .ok (.getfield 62, 3) := by decide +kernel
theorem dX7_joinThree_79 : decode cX7_joinThree 79 = .ok (.iload_n 1, 1) := by decide +kernel
theorem dX7_joinThree_80 : decode cX7_joinThree 80 = .ok (.iaload, 1) := by decide +kernel
theorem dX7_joinThree_81 : decode cX7_joinThree 81 = .ok (.ireturn, 1) := by decide +kernel
theorem dX7_leftIn_0 : decode cX7_leftIn 0 = .ok (.iconst 3, 1) := by decide +kernel
theorem dX7_leftIn_1 : decode cX7_leftIn 1 = .ok (.iload_n 1, 1) := by decide +kernel
theorem dX7_leftIn_2 : decode cX7_leftIn 2 = .ok (.imul, 1) := by decide +kernel
theorem dX7_leftIn_3 : decode cX7_leftIn 3 = .ok (.aload_n 0, 1) := by decide +kernel
theorem dX7_leftIn_4 : decode cX7_leftIn 4 = .ok (.getfield 59, 3) := by decide +kernel
theorem dX7_leftIn_7 : decode cX7_leftIn 7 = .ok (.iload_n 1, 1) := by decide +kernel
theorem dX7_leftIn_8 : decode cX7_leftIn 8 = .ok (.iaload, 1) := by decide +kernel
theorem dX7_leftIn_9 : decode cX7_leftIn 9 = .ok (.iadd, 1) := by decide +kernel
theorem dX7_leftIn_10 : decode cX7_leftIn 10 = .ok (.istore_n 2, 1) := by decide +kernel
theorem dX7_leftIn_11 : decode cX7_leftIn 11 = .ok (.aload_n 0, 1) := by decide +kernel
theorem dX7_leftIn_12 : decode cX7_leftIn 12 = .ok (.getfield 59, 3) := by decide +kernel
theorem dX7_leftIn_15 : decode cX7_leftIn 15 = .ok (.iload_n 1, 1) := by decide +kernel
theorem dX7_leftIn_16 : decode cX7_leftIn 16 = .ok (.iaload, 1) := by decide +kernel
theorem dX7_leftIn_17 : decode cX7_leftIn 17 = .ok (.aload_n 0, 1) := by decide +kernel
theorem dX7_leftIn_18 : decode cX7_leftIn 18 = .ok (.getfield 50, 3) := by decide +kernel
theorem dX7_leftIn_21 : decode cX7_leftIn 21 = .ok (.iload_n 1, 1) := by decide +kernel
theorem dX7_leftIn_22 : decode cX7_leftIn 22 = .ok (.iaload, 1) := by decide +kernel
theorem dX7_leftIn_23 : decode cX7_leftIn 23 = .ok (.if_icmp .ne 7, 3) := by decide +kernel
theorem dX7_leftIn_26 : decode cX7_leftIn 26 = .ok (.iconst 0, 1) := by decide +kernel
theorem dX7_leftIn_27 : decode cX7_leftIn 27 = .ok (.goto 21, 3) := by decide +kernel
theorem dX7_leftIn_30 : decode cX7_leftIn 30 = .ok (.aload_n 0, 1) := by decide +kernel
theorem dX7_leftIn_31 : decode cX7_leftIn 31 = .ok (.getfield 22, 3) := by decide +kernel
theorem dX7_leftIn_34 : decode cX7_leftIn 34 = .ok (.aload_n 0, 1) := by decide +kernel
theorem dX7_leftIn_35 : decode cX7_leftIn 35 = .ok (.getfield 53, 3) := by decide +kernel
theorem dX7_leftIn_38 : decode cX7_leftIn 38 = .ok (.iload_n 2, 1) := by decide +kernel
theorem dX7_leftIn_39 : decode cX7_leftIn 39 = .ok (.iaload, 1) := by decide +kernel
theorem dX7_leftIn_40 : decode cX7_leftIn 40 = .ok (.iaload, 1) := by decide +kernel
theorem dX7_leftIn_41 : decode cX7_leftIn 41 = .ok (.aload_n 0, 1) := by decide +kernel
theorem dX7_leftIn_42 : decode cX7_leftIn 42 = .ok (.getfield 56, 3) := by decide +kernel
theorem dX7_leftIn_45 : decode cX7_leftIn 45 = .ok (.iload_n 2, 1) := by decide +kernel
theorem dX7_leftIn_46 : decode cX7_leftIn 46 = .ok (.iaload, 1) := by decide +kernel
theorem dX7_leftIn_47 : decode cX7_leftIn 47 = .ok (.isub, 1) := by decide +kernel
theorem dX7_leftIn_48 : decode cX7_leftIn 48 = .ok (.ireturn, 1) := by decide +kernel
set_option maxRecDepth 20000 in
theorem ggX7_wants_X7_leftIn : GoodIn wsX7_wants wsX7_leftIn := goodIn_ca (goodIn_r _ [7, 1, 2, 8, 9, 10, 11, 12, 13, 14, 15, 16, 17, 18, 19, 20, 21, 22, 23, 24, 25, 26, 27, 28, 29, 30, 31] (by decide +kernel) (by decide +kernel)) (goodIn_sub (fun _ h => List.mem_cons_of_mem _ (List.mem_append_right _ h)) (by decide +kernel))
set_option maxRecDepth 20000 in
theorem gX7_wants_X7_leftIn : GoodIn wsX7_wants (wsV RX7 156 RX7 yX7_leftIn wsX7_leftIn) := goodIn_app (goodIn_of _ (by decide +kernel)) ggX7_wants_X7_leftIn
theorem dX7_wants_0 : decode cX7_wants 0 = .ok (.aload_n 0, 1) := by decide +kernel
theorem dX7_wants_1 : decode cX7_wants 1 = .ok (.getfield 59, 3) := by decide +kernel
theorem dX7_wants_4 : decode cX7_wants 4 = .ok (.iload_n 1, 1) := by decide +kernel
theorem dX7_wants_5 : decode cX7_wants 5 = .ok (.iaload, 1) := by decide +kernel
theorem dX7_wants_6 : decode cX7_wants 6 = .ok (.aload_n 0, 1) := by decide +kernel
theorem dX7_wants_7 : decode cX7_wants 7 = .ok (.getfield 50, 3) := by decide +kernel
theorem dX7_wants_10 : decode cX7_wants 10 = .ok (.iload_n 1, 1) := by decide +kernel
theorem dX7_wants_11 : decode cX7_wants 11 = .ok (.iaload, 1) := by decide +kernel
theorem dX7_wants_12 : decode cX7_wants 12 = .ok (.if_icmp .ge 24, 3) := by decide +kernel
theorem dX7_wants_15 : decode cX7_wants 15 = .ok (.aload_n 0, 1) := by decide +kernel
theorem dX7_wants_16 : decode cX7_wants 16 = .ok (.iload_n 1, 1) := by decide +kernel
theorem dX7_wants_17 : decode cX7_wants 17 = .ok (.invokevirtual 156, 3) := by decide +kernel
theorem dX7_wants_20 : decode cX7_wants 20 = .ok (.ifCond .ne 16, 3) := by decide +kernel
theorem dX7_wants_23 : decode cX7_wants 23 = .ok (.aload_n 0, 1) := by decide +kernel
theorem dX7_wants_24 : decode cX7_wants 24 = .ok (.getfield 59, 3) := by decide +kernel
theorem dX7_wants_27 : decode cX7_wants 27 = .ok (.iload_n 1, 1) := by decide +kernel
theorem dX7_wants_28 : decode cX7_wants 28 = .ok (.dup2, 1) := by decide +kernel
theorem dX7_wants_29 : decode cX7_wants 29 = .ok (.iaload, 1) := by decide +kernel
theorem dX7_wants_30 : decode cX7_wants 30 = .ok (.iconst 1, 1) := by decide +kernel
theorem dX7_wants_31 : decode cX7_wants 31 = .ok (.iadd, 1) := by decide +kernel
theorem dX7_wants_32 : decode cX7_wants 32 = .ok (.iastore, 1) := by decide +kernel
theorem dX7_wants_33 : decode cX7_wants 33 = .ok (.goto (-33), 3) := by decide +kernel
theorem dX7_wants_36 : decode cX7_wants 36 = .ok (.aload_n 0, 1) := by decide +kernel
theorem dX7_wants_37 : decode cX7_wants 37 = .ok (.getfield 59, 3) := by decide +kernel
theorem dX7_wants_40 : decode cX7_wants 40 = .ok (.iload_n 1, 1) := by decide +kernel
theorem dX7_wants_41 : decode cX7_wants 41 = .ok (.iaload, 1) := by decide +kernel
theorem dX7_wants_42 : decode cX7_wants 42 = .ok (.aload_n 0, 1) := by decide +kernel
theorem dX7_wants_43 : decode cX7_wants 43 = .ok (.getfield 50, 3) := by decide +kernel
theorem dX7_wants_46 : decode cX7_wants 46 = .ok (.iload_n 1, 1) := by decide +kernel
theorem dX7_wants_47 : decode cX7_wants 47 = .ok (.iaload, 1) := by decide +kernel
theorem dX7_wants_48 : decode cX7_wants 48 = .ok (.if_icmp .ge 7, 3) := by decide +kernel
theorem dX7_wants_51 : decode cX7_wants 51 = .ok (.iconst 1, 1) := by decide +kernel
theorem dX7_wants_52 : decode cX7_wants 52 = .ok (.goto 4, 3) := by decide +kernel
theorem dX7_wants_55 : decode cX7_wants 55 = .ok (.iconst 0, 1) := by decide +kernel
theorem dX7_wants_56 : decode cX7_wants 56 = .ok (.ireturn, 1) := by decide +kernel
theorem dX7_got_0 : decode cX7_got 0 = .ok (.iconst 3, 1) := by decide +kernel
theorem dX7_got_1 : decode cX7_got 1 = .ok (.iload_n 1, 1) := by decide +kernel
theorem dX7_got_2 : decode cX7_got 2 = .ok (.imul, 1) := by decide +kernel
theorem dX7_got_3 : decode cX7_got 3 = .ok (.aload_n 0, 1) := by decide +kernel
theorem dX7_got_4 : decode cX7_got 4 = .ok (.getfield 59, 3) := by decide +kernel
theorem dX7_got_7 : decode cX7_got 7 = .ok (.iload_n 1, 1) := by decide +kernel
theorem dX7_got_8 : decode cX7_got 8 = .ok (.iaload, 1) := by decide +kernel
theorem dX7_got_9 : decode cX7_got 9 = .ok (.iadd, 1) := by decide +kernel
theorem dX7_got_10 : decode cX7_got 10 = .ok (.istore_n 2, 1) := by decide +kernel
theorem dX7_got_11 : decode cX7_got 11 = .ok (.aload_n 0, 1) := by decide +kernel
theorem dX7_got_12 : decode cX7_got 12 = .ok (.getfield 56, 3) := by decide +kernel
theorem dX7_got_15 : decode cX7_got 15 = .ok (.iload_n 2, 1) := by decide +kernel
theorem dX7_got_16 : decode cX7_got 16 = .ok (.dup2, 1) := by decide +kernel
theorem dX7_got_17 : decode cX7_got 17 = .ok (.iaload, 1) := by decide +kernel
theorem dX7_got_18 : decode cX7_got 18 = .ok (.iconst 1, 1) := by decide +kernel
theorem dX7_got_19 : decode cX7_got 19 = .ok (.iadd, 1) := by decide +kernel
theorem dX7_got_20 : decode cX7_got 20 = .ok (.iastore, 1) := by decide +kernel
theorem dX7_got_21 : decode cX7_got 21 = .ok (.aload_n 0, 1) := by decide +kernel
theorem dX7_got_22 : decode cX7_got 22 = .ok (.getfield 65, 3) := by decide +kernel
theorem dX7_got_25 : decode cX7_got 25 = .ok (.iload_n 1, 1) := by decide +kernel
theorem dX7_got_26 : decode cX7_got 26 = .ok (.dup2, 1) := by decide +kernel
theorem dX7_got_27 : decode cX7_got 27 = .ok (.iaload, 1) := by decide +kernel
theorem dX7_got_28 : decode cX7_got 28 = .ok (.iconst 1, 1) := by decide +kernel
theorem dX7_got_29 : decode cX7_got 29 = .ok (.iadd, 1) := by decide +kernel
theorem dX7_got_30 : decode cX7_got 30 = .ok (.iastore, 1) := by decide +kernel
theorem dX7_got_31 : decode cX7_got 31 = .ok (.aload_n 0, 1) := by decide +kernel
theorem dX7_got_32 : decode cX7_got 32 = .ok (.getfield 19, 3) := by decide +kernel
theorem dX7_got_35 : decode cX7_got 35 = .ok (.bipush 64, 2) := by decide +kernel
theorem dX7_got_37 : decode cX7_got 37 = .ok (.aload_n 0, 1) := by decide +kernel
theorem dX7_got_38 : decode cX7_got 38 = .ok (.getfield 53, 3) := by decide +kernel
theorem dX7_got_41 : decode cX7_got 41 = .ok (.iload_n 2, 1) := by decide +kernel
theorem dX7_got_42 : decode cX7_got 42 = .ok (.iaload, 1) := by decide +kernel
theorem dX7_got_43 : decode cX7_got 43 = .ok (.imul, 1) := by decide +kernel
theorem dX7_got_44 : decode cX7_got 44 = .ok (.aload_n 0, 1) := by decide +kernel
theorem dX7_got_45 : decode cX7_got 45 = .ok (.getfield 56, 3) := by decide +kernel
theorem dX7_got_48 : decode cX7_got 48 = .ok (.iload_n 2, 1) := by decide +kernel
theorem dX7_got_49 : decode cX7_got 49 = .ok (.iaload, 1) := by decide +kernel
theorem dX7_got_50 : decode cX7_got 50 = .ok (.iadd, 1) := by decide +kernel
theorem dX7_got_51 : decode cX7_got 51 = .ok (.iconst 1, 1) := by decide +kernel
theorem dX7_got_52 : decode cX7_got 52 = .ok (.isub, 1) := by decide +kernel
theorem dX7_got_53 : decode cX7_got 53 = .ok (.iaload, 1) := by decide +kernel
theorem dX7_got_54 : decode cX7_got 54 = .ok (.ireturn, 1) := by decide +kernel
set_option maxRecDepth 20000 in
theorem ggX7_isUnjoined_X7_isStream : GoodIn wsX7_isUnjoined wsX7_isStream := goodIn_r _ [6] (by decide +kernel) (by decide +kernel)
set_option maxRecDepth 20000 in
theorem gX7_isUnjoined_X7_isStream : GoodIn wsX7_isUnjoined (wsV RX7 146 RX7 yX7_isStream wsX7_isStream) := goodIn_app (goodIn_of _ (by decide +kernel)) ggX7_isUnjoined_X7_isStream
set_option maxRecDepth 20000 in
theorem ggX7_isUnjoined_X7_isWrong : GoodIn wsX7_isUnjoined wsX7_isWrong := goodIn_r _ [10, 11, 12, 13, 14, 15, 16, 17, 18, 19, 20, 21, 22, 23, 24, 25, 26, 27, 28, 29, 30, 31, 32] (by decide +kernel) (by decide +kernel)
set_option maxRecDepth 20000 in
theorem gX7_isUnjoined_X7_isWrong : GoodIn wsX7_isUnjoined (wsV RX7 87 RX7 yX7_isWrong wsX7_isWrong) := goodIn_app (goodIn_of _ (by decide +kernel)) ggX7_isUnjoined_X7_isWrong
theorem dX7_isUnjoined_0 : decode cX7_isUnjoined 0 = .ok (.aload_n 0, 1) := by decide +kernel
theorem dX7_isUnjoined_1 : decode cX7_isUnjoined 1 = .ok (.aload_n 0, 1) := by decide +kernel
theorem dX7_isUnjoined_2 : decode cX7_isUnjoined 2 = .ok (.iload_n 1, 1) := by decide +kernel
theorem dX7_isUnjoined_3 : decode cX7_isUnjoined 3 = .ok (.invokevirtual 146, 3) := by decide +kernel
theorem dX7_isUnjoined_6 : decode cX7_isUnjoined 6 = .ok (.ifCond .ne 7, 3) := by decide +kernel
theorem dX7_isUnjoined_9 : decode cX7_isUnjoined 9 = .ok (.iconst 1, 1) := by decide +kernel
theorem dX7_isUnjoined_10 : decode cX7_isUnjoined 10 = .ok (.goto 17, 3) := by decide +kernel
theorem dX7_isUnjoined_13 : decode cX7_isUnjoined 13 = .ok (.aload_n 0, 1) := by decide +kernel
theorem dX7_isUnjoined_14 : decode cX7_isUnjoined 14 = .ok (.getfield 50, 3) := by decide +kernel
theorem dX7_isUnjoined_17 : decode cX7_isUnjoined 17 = .ok (.iload_n 1, 1) := by decide +kernel
theorem dX7_isUnjoined_18 : decode cX7_isUnjoined 18 = .ok (.iaload, 1) := by decide +kernel
theorem dX7_isUnjoined_19 : decode cX7_isUnjoined 19 = .ok (.ifCond .ne 7, 3) := by decide +kernel
theorem dX7_isUnjoined_22 : decode cX7_isUnjoined 22 = .ok (.iconst 2, 1) := by decide +kernel
theorem dX7_isUnjoined_23 : decode cX7_isUnjoined 23 = .ok (.goto 4, 3) := by decide +kernel
theorem dX7_isUnjoined_26 : decode cX7_isUnjoined 26 = .ok (.iconst 0, 1) := by decide +kernel
theorem dX7_isUnjoined_27 : decode cX7_isUnjoined 27 = .ok (.invokevirtual 87, 3) := by decide +kernel
theorem dX7_isUnjoined_30 : decode cX7_isUnjoined 30 = .ok (.ireturn, 1) := by decide +kernel
set_option maxRecDepth 20000 in
theorem ggX7_next_X7_isUnjoined : GoodIn wsX7_next wsX7_isUnjoined := goodIn_ca (goodIn_r _ [5, 6, 7, 8, 9, 4, 10, 11, 12, 13, 14, 15, 34, 35, 36, 37, 38, 39, 40, 41, 42, 43, 44, 45, 46, 47, 48, 49, 50, 51, 52, 53, 54] (by decide +kernel) (by decide +kernel)) (goodIn_sub (fun _ h => List.mem_cons_of_mem _ (List.mem_append_right _ h)) (by decide +kernel))
set_option maxRecDepth 20000 in
theorem gX7_next_X7_isUnjoined : GoodIn wsX7_next (wsV RX7 159 RX7 yX7_isUnjoined wsX7_isUnjoined) := goodIn_app (goodIn_of _ (by decide +kernel)) ggX7_next_X7_isUnjoined
set_option maxRecDepth 20000 in
theorem ggX7_next_X7_wants : GoodIn wsX7_next wsX7_wants := goodIn_ca (goodIn_r _ [19, 20, 6, 21, 22, 23, 4, 24, 25, 26, 27, 34, 35, 36, 37, 38, 39, 40, 41, 42, 43, 44, 45, 46, 47, 48, 49, 50, 51, 52, 53, 54] (by decide +kernel) (by decide +kernel)) (goodIn_sub (fun _ h => List.mem_cons_of_mem _ (List.mem_append_right _ h)) (by decide +kernel))
set_option maxRecDepth 20000 in
theorem gX7_next_X7_wants : GoodIn wsX7_next (wsV RX7 162 RX7 yX7_wants wsX7_wants) := goodIn_app (goodIn_of _ (by decide +kernel)) ggX7_next_X7_wants
set_option maxRecDepth 20000 in
theorem ggX7_next_X7_got : GoodIn wsX7_next wsX7_got := goodIn_ca (goodIn_r _ [31, 20, 27, 32, 33, 26, 34, 35, 36, 37, 38, 39, 40, 41, 42, 43, 44, 45, 46, 47, 48, 49, 50, 51, 52, 53, 54] (by decide +kernel) (by decide +kernel)) (goodIn_sub (fun _ h => List.mem_cons_of_mem _ (List.mem_append_right _ h)) (by decide +kernel))
set_option maxRecDepth 20000 in
theorem gX7_next_X7_got : GoodIn wsX7_next (wsV RX7 165 RX7 yX7_got wsX7_got) := goodIn_app (goodIn_of _ (by decide +kernel)) ggX7_next_X7_got
theorem dX7_next_0 : decode cX7_next 0 = .ok (.aload_n 0, 1) := by decide +kernel
theorem dX7_next_1 : decode cX7_next 1 = .ok (.iload_n 1, 1) := by decide +kernel
theorem dX7_next_2 : decode cX7_next 2 = .ok (.invokevirtual 159, 3) := by decide +kernel
theorem dX7_next_5 : decode cX7_next 5 = .ok (.ifCond .eq 5, 3) := by decide +kernel
theorem dX7_next_8 : decode cX7_next 8 = .ok (.iconst 0, 1) := by decide +kernel
theorem dX7_next_9 : decode cX7_next 9 = .ok (.ireturn, 1) := by decide +kernel
theorem dX7_next_10 : decode cX7_next 10 = .ok (.aload_n 0, 1) := by decide +kernel
theorem dX7_next_11 : decode cX7_next 11 = .ok (.iload_n 1, 1) := by decide +kernel
theorem dX7_next_12 : decode cX7_next 12 = .ok (.invokevirtual 162, 3) := by decide +kernel
theorem dX7_next_15 : decode cX7_next 15 = .ok (.ifCond .eq 15, 3) := by decide +kernel
theorem dX7_next_18 : decode cX7_next 18 = .ok (.aload_n 0, 1) := by decide +kernel
theorem dX7_next_19 : decode cX7_next 19 = .ok (.iload_n 1, 1) := by decide +kernel
theorem dX7_next_20 : decode cX7_next 20 = .ok (.invokevirtual 165, 3) := by decide +kernel
theorem dX7_next_23 : decode cX7_next 23 = .ok (.sipush 255, 3) := by decide +kernel
theorem dX7_next_26 : decode cX7_next 26 = .ok (.iand, 1) := by decide +kernel
theorem dX7_next_27 : decode cX7_next 27 = .ok (.goto 4, 3) := by decide +kernel
theorem dX7_next_30 : decode cX7_next 30 = .ok (.iconst (-1), 1) := by decide +kernel
theorem dX7_next_31 : decode cX7_next 31 = .ok (.ireturn, 1) := by decide +kernel
theorem dX7_isItsArray_0 : decode cX7_isItsArray 0 = .ok (.iconst 0, 1) := by decide +kernel
theorem dX7_isItsArray_1 : decode cX7_isItsArray 1 = .ok (.istore_n 3, 1) := by decide +kernel
theorem dX7_isItsArray_2 : decode cX7_isItsArray 2 = .ok (.iconst 0, 1) := by decide +kernel
theorem dX7_isItsArray_3 : decode cX7_isItsArray 3 = .ok (.istore 4, 2) := by decide +kernel
theorem dX7_isItsArray_5 : decode cX7_isItsArray 5 = .ok (.iload 4, 2) := by decide +kernel
theorem dX7_isItsArray_7 : decode cX7_isItsArray 7 = .ok (.aload_n 0, 1) := by decide +kernel
theorem dX7_isItsArray_8 : decode cX7_isItsArray 8 = .ok (.getfield 50, 3) := by decide +kernel
theorem dX7_isItsArray_11 : decode cX7_isItsArray 11 = .ok (.iload_n 1, 1) := by decide +kernel
theorem dX7_isItsArray_12 : decode cX7_isItsArray 12 = .ok (.iaload, 1) := by decide +kernel
theorem dX7_isItsArray_13 : decode cX7_isItsArray 13 = .ok (.if_icmp .ge 37, 3) := by decide +kernel
theorem dX7_isItsArray_16 : decode cX7_isItsArray 16 = .ok (.iload_n 3, 1) := by decide +kernel
theorem dX7_isItsArray_17 : decode cX7_isItsArray 17 = .ok (.aload_n 0, 1) := by decide +kernel
theorem dX7_isItsArray_18 : decode cX7_isItsArray 18 = .ok (.getfield 53, 3) := by decide +kernel
theorem dX7_isItsArray_21 : decode cX7_isItsArray 21 = .ok (.iconst 3, 1) := by decide +kernel
theorem dX7_isItsArray_22 : decode cX7_isItsArray 22 = .ok (.iload_n 1, 1) := by decide +kernel
theorem dX7_isItsArray_23 : decode cX7_isItsArray 23 = .ok (.imul, 1) := by decide +kernel
theorem dX7_isItsArray_24 : decode cX7_isItsArray 24 = .ok (.iload 4, 2) := by decide +kernel
theorem dX7_isItsArray_26 : decode cX7_isItsArray 26 = .ok (.iadd, 1) := by decide +kernel
theorem dX7_isItsArray_27 : decode cX7_isItsArray 27 = .ok (.iaload, 1) := by decide +kernel
theorem dX7_isItsArray_28 : decode cX7_isItsArray 28 = .ok (.aload_n 0, 1) := by decide +kernel
theorem dX7_isItsArray_29 : decode cX7_isItsArray 29 = .ok (.getfield 25, 3) := by decide +kernel
theorem dX7_isItsArray_32 : decode cX7_isItsArray 32 = .ok (.iload_n 2, 1) := by decide +kernel
theorem dX7_isItsArray_33 : decode cX7_isItsArray 33 = .ok (.iaload, 1) := by decide +kernel
theorem dX7_isItsArray_34 : decode cX7_isItsArray 34 = .ok (.if_icmp .ne 7, 3) := by decide +kernel
theorem dX7_isItsArray_37 : decode cX7_isItsArray 37 = .ok (.iconst 1, 1) := by decide +kernel
theorem dX7_isItsArray_38 : decode cX7_isItsArray 38 = .ok (.goto 4, 3) := by decide +kernel
theorem dX7_isItsArray_41 : decode cX7_isItsArray 41 = .ok (.iconst 0, 1) := by decide +kernel
theorem dX7_isItsArray_42 : decode cX7_isItsArray 42 = .ok (.ior, 1) := by decide +kernel
theorem dX7_isItsArray_43 : decode cX7_isItsArray 43 = .ok (.istore_n 3, 1) := by decide +kernel
theorem dX7_isItsArray_44 : decode cX7_isItsArray 44 = .ok (.iinc 4 1, 3) := by decide +kernel
theorem dX7_isItsArray_47 : decode cX7_isItsArray 47 = .ok (.goto (-42), 3) := by decide +kernel
theorem dX7_isItsArray_50 : decode cX7_isItsArray 50 = .ok (.iload_n 3, 1) := by decide +kernel
theorem dX7_isItsArray_51 : decode cX7_isItsArray 51 = .ok (.ireturn, 1) := by decide +kernel
set_option maxRecDepth 20000 in
theorem ggX7_nextPart_X7_isStream : GoodIn wsX7_nextPart wsX7_isStream := goodIn_r _ [8] (by decide +kernel) (by decide +kernel)
set_option maxRecDepth 20000 in
theorem gX7_nextPart_X7_isStream : GoodIn wsX7_nextPart (wsV RX7 146 RX7 yX7_isStream wsX7_isStream) := goodIn_app (goodIn_of _ (by decide +kernel)) ggX7_nextPart_X7_isStream
set_option maxRecDepth 20000 in
theorem ggX7_nextPart_X7_isBytePart : GoodIn wsX7_nextPart wsX7_isBytePart := goodIn_ca (goodIn_r _ [12, 13, 3, 14, 15, 16, 7, 17, 47, 48, 49, 50, 51, 52, 53, 54, 55, 56, 57, 58, 59, 60, 61, 62, 63, 64, 65, 66, 67] (by decide +kernel) (by decide +kernel)) (goodIn_sub (fun _ h => List.mem_cons_of_mem _ (List.mem_append_right _ h)) (by decide +kernel))
set_option maxRecDepth 20000 in
theorem gX7_nextPart_X7_isBytePart : GoodIn wsX7_nextPart (wsV RX7 104 RX7 yX7_isBytePart wsX7_isBytePart) := goodIn_app (goodIn_of _ (by decide +kernel)) ggX7_nextPart_X7_isBytePart
set_option maxRecDepth 20000 in
theorem ggX7_nextPart_X7_isItsArray : GoodIn wsX7_nextPart wsX7_isItsArray := goodIn_ca (goodIn_r _ [21, 1, 22, 3, 47, 48, 49, 50, 51, 52, 53, 54, 55, 56, 57, 58, 59, 60, 61, 62, 63, 64, 65, 66, 67] (by decide +kernel) (by decide +kernel)) (goodIn_sub (fun _ h => List.mem_cons_of_mem _ (List.mem_append_right _ h)) (by decide +kernel))
set_option maxRecDepth 20000 in
theorem gX7_nextPart_X7_isItsArray : GoodIn wsX7_nextPart (wsV RX7 168 RX7 yX7_isItsArray wsX7_isItsArray) := goodIn_app (goodIn_of _ (by decide +kernel)) ggX7_nextPart_X7_isItsArray
set_option maxRecDepth 20000 in
theorem ggX7_nextPart_X7_isWrong : GoodIn wsX7_nextPart wsX7_isWrong := goodIn_r _ [26, 27, 47, 48, 49, 50, 51, 52, 53, 54, 55, 56, 57, 58, 59, 60, 61, 62, 63, 64, 65, 66, 67] (by decide +kernel) (by decide +kernel)
set_option maxRecDepth 20000 in
theorem gX7_nextPart_X7_isWrong : GoodIn wsX7_nextPart (wsV RX7 87 RX7 yX7_isWrong wsX7_isWrong) := goodIn_app (goodIn_of _ (by decide +kernel)) ggX7_nextPart_X7_isWrong
set_option maxRecDepth 20000 in
theorem ggX7_nextPart_X7_wants : GoodIn wsX7_nextPart wsX7_wants := goodIn_ca (goodIn_r _ [31, 32, 1, 33, 34, 35, 7, 36, 13, 22, 37, 47, 48, 49, 50, 51, 52, 53, 54, 55, 56, 57, 58, 59, 60, 61, 62, 63, 64, 65, 66, 67] (by decide +kernel) (by decide +kernel)) (goodIn_sub (fun _ h => List.mem_cons_of_mem _ (List.mem_append_right _ h)) (by decide +kernel))
set_option maxRecDepth 20000 in
theorem gX7_nextPart_X7_wants : GoodIn wsX7_nextPart (wsV RX7 162 RX7 yX7_wants wsX7_wants) := goodIn_app (goodIn_of _ (by decide +kernel)) ggX7_nextPart_X7_wants
set_option maxRecDepth 20000 in
theorem ggX7_nextPart_X7_leftIn : GoodIn wsX7_nextPart wsX7_leftIn := goodIn_ca (goodIn_r _ [36, 32, 1, 13, 22, 37, 47, 48, 49, 50, 51, 52, 53, 54, 55, 56, 57, 58, 59, 60, 61, 62, 63, 64, 65, 66, 67] (by decide +kernel) (by decide +kernel)) (goodIn_sub (fun _ h => List.mem_cons_of_mem _ (List.mem_append_right _ h)) (by decide +kernel))
set_option maxRecDepth 20000 in
theorem gX7_nextPart_X7_leftIn : GoodIn wsX7_nextPart (wsV RX7 156 RX7 yX7_leftIn wsX7_leftIn) := goodIn_app (goodIn_of _ (by decide +kernel)) ggX7_nextPart_X7_leftIn
set_option maxRecDepth 20000 in
theorem ggX7_nextPart_X7_lesser : GoodIn wsX7_nextPart wsX7_lesser := goodIn_r _ [41] (by decide +kernel) (by decide +kernel)
set_option maxRecDepth 20000 in
theorem gX7_nextPart_X7_lesser : GoodIn wsX7_nextPart (wsV RX7 136 RX7 yX7_lesser wsX7_lesser) := goodIn_app (goodIn_of _ (by decide +kernel)) ggX7_nextPart_X7_lesser
set_option maxRecDepth 20000 in
theorem ggX7_nextPart_X7_got : GoodIn wsX7_nextPart wsX7_got := goodIn_ca (goodIn_r _ [45, 32, 37, 46, 2, 22, 47, 48, 49, 50, 51, 52, 53, 54, 55, 56, 57, 58, 59, 60, 61, 62, 63, 64, 65, 66, 67] (by decide +kernel) (by decide +kernel)) (goodIn_sub (fun _ h => List.mem_cons_of_mem _ (List.mem_append_right _ h)) (by decide +kernel))
set_option maxRecDepth 20000 in
theorem gX7_nextPart_X7_got : GoodIn wsX7_nextPart (wsV RX7 165 RX7 yX7_got wsX7_got) := goodIn_app (goodIn_of _ (by decide +kernel)) ggX7_nextPart_X7_got
theorem dX7_nextPart_0 : decode cX7_nextPart 0 = .ok (.aload_n 0, 1) := by decide +kernel
theorem dX7_nextPart_1 : decode cX7_nextPart 1 = .ok (.iload_n 1, 1) := by decide +kernel
theorem dX7_nextPart_2 : decode cX7_nextPart 2 = .ok (.invokevirtual 146, 3) := by decide +kernel
theorem dX7_nextPart_5 : decode cX7_nextPart 5 = .ok (.ifCond .eq 28, 3) := by decide +kernel
theorem dX7_nextPart_8 : decode cX7_nextPart 8 = .ok (.aload_n 0, 1) := by decide +kernel
theorem dX7_nextPart_9 : decode cX7_nextPart 9 = .ok (.iload_n 2, 1) := by decide +kernel
theorem dX7_nextPart_10 : decode cX7_nextPart 10 = .ok (.iload_n 3, 1) := by decide +kernel
theorem dX7_nextPart_11 : decode cX7_nextPart 11 = .ok (.iload 4, 2) := by decide +kernel
theorem dX7_nextPart_13 : decode cX7_nextPart 13 = .ok (.iconst 1, 1) := by decide +kernel
theorem dX7_nextPart_14 : decode cX7_nextPart 14 = .ok (.if_icmp .ge 7, 3) := by decide +kernel
theorem dX7_nextPart_17 : decode cX7_nextPart 17 = .ok (.iconst 0, 1) := by decide +kernel
theorem dX7_nextPart_18 : decode cX7_nextPart 18 = .ok (.goto 5, 3) := by decide +kernel
theorem dX7_nextPart_21 : decode cX7_nextPart 21 = .ok (.iload 4, 2) := by decide +kernel
theorem dX7_nextPart_23 : decode cX7_nextPart 23 = .ok (.invokevirtual 104, 3) := by decide +kernel
theorem dX7_nextPart_26 : decode cX7_nextPart 26 = .ok (.ifCond .eq 7, 3) := by decide +kernel
theorem dX7_nextPart_29 : decode cX7_nextPart 29 = .ok (.iconst 1, 1) := by decide +kernel
theorem dX7_nextPart_30 : decode cX7_nextPart 30 = .ok (.goto 4, 3) := by decide +kernel
theorem dX7_nextPart_33 : decode cX7_nextPart 33 = .ok (.iconst 0, 1) := by decide +kernel
theorem dX7_nextPart_34 : decode cX7_nextPart 34 = .ok (.istore 5, 2) := by decide +kernel
theorem dX7_nextPart_36 : decode cX7_nextPart 36 = .ok (.aload_n 0, 1) := by decide +kernel
theorem dX7_nextPart_37 : decode cX7_nextPart 37 = .ok (.iload 5, 2) := by decide +kernel
theorem dX7_nextPart_39 : decode cX7_nextPart 39 = .ok (.ifCond .eq 8, 3) := by decide +kernel
theorem dX7_nextPart_42 : decode cX7_nextPart 42 = .ok (.iload 4, 2) := by decide +kernel
theorem dX7_nextPart_44 : decode cX7_nextPart 44 = .ok (.ifCond .ge 7, 3) := by decide +kernel
theorem dX7_nextPart_47 : decode cX7_nextPart 47 = .ok (.iconst 1, 1) := by decide +kernel
theorem dX7_nextPart_48 : decode cX7_nextPart 48 = .ok (.goto 40, 3) := by decide +kernel
theorem dX7_nextPart_51 : decode cX7_nextPart 51 = .ok (.iload 4, 2) := by decide +kernel
theorem dX7_nextPart_53 : decode cX7_nextPart 53 = .ok (.iconst 1, 1) := by decide +kernel
theorem dX7_nextPart_54 : decode cX7_nextPart 54 = .ok (.if_icmp .ge 7, 3) := by decide +kernel
theorem dX7_nextPart_57 : decode cX7_nextPart 57 = .ok (.iconst 2, 1) := by decide +kernel
theorem dX7_nextPart_58 : decode cX7_nextPart 58 = .ok (.goto 30, 3) := by decide +kernel
theorem dX7_nextPart_61 : decode cX7_nextPart 61 = .ok (.aload_n 0, 1) := by decide +kernel
theorem dX7_nextPart_62 : decode cX7_nextPart 62 = .ok (.getfield 50, 3) := by decide +kernel
theorem dX7_nextPart_65 : decode cX7_nextPart 65 = .ok (.iload_n 1, 1) := by decide +kernel
theorem dX7_nextPart_66 : decode cX7_nextPart 66 = .ok (.iaload, 1) := by decide +kernel
theorem dX7_nextPart_67 : decode cX7_nextPart 67 = .ok (.ifCond .ne 7, 3) := by decide +kernel
theorem dX7_nextPart_70 : decode cX7_nextPart 70 = .ok (.iconst 3, 1) := by decide +kernel
theorem dX7_nextPart_71 : decode cX7_nextPart 71 = .ok (.goto 17, 3) := by decide +kernel
theorem dX7_nextPart_74 : decode cX7_nextPart 74 = .ok (.aload_n 0, 1) := by decide +kernel
theorem dX7_nextPart_75 : decode cX7_nextPart 75 = .ok (.iload_n 1, 1) := by decide +kernel
theorem dX7_nextPart_76 : decode cX7_nextPart 76 = .ok (.iload_n 2, 1) := by decide +kernel
theorem dX7_nextPart_77 : decode cX7_nextPart 77 = .ok (.invokevirtual 168, 3) := by decide +kernel
theorem dX7_nextPart_80 : decode cX7_nextPart 80 = .ok (.ifCond .eq 7, 3) := by decide +kernel
theorem dX7_nextPart_83 : decode cX7_nextPart 83 = .ok (.iconst 4, 1) := by decide +kernel
theorem dX7_nextPart_84 : decode cX7_nextPart 84 = .ok (.goto 4, 3) := by decide +kernel
theorem dX7_nextPart_87 : decode cX7_nextPart 87 = .ok (.iconst 0, 1) := by decide +kernel
theorem dX7_nextPart_88 : decode cX7_nextPart 88 = .ok (.invokevirtual 87, 3) := by decide +kernel
theorem dX7_nextPart_91 : decode cX7_nextPart 91 = .ok (.ifCond .eq 5, 3) := by decide +kernel
theorem dX7_nextPart_94 : decode cX7_nextPart 94 = .ok (.iconst 0, 1) := by decide +kernel
theorem dX7_nextPart_95 : decode cX7_nextPart 95 = .ok (.ireturn, 1) := by decide +kernel
theorem dX7_nextPart_96 : decode cX7_nextPart 96 = .ok (.aload_n 0, 1) := by decide +kernel
theorem dX7_nextPart_97 : decode cX7_nextPart 97 = .ok (.iload_n 1, 1) := by decide +kernel
theorem dX7_nextPart_98 : decode cX7_nextPart 98 = .ok (.invokevirtual 162, 3) := by decide +kernel
theorem dX7_nextPart_101 : decode cX7_nextPart 101 = .ok (.ifCond .ne 5, 3) := by decide +kernel
theorem dX7_nextPart_104 : decode cX7_nextPart 104 = .ok (.iconst (-1), 1) := by decide +kernel
theorem dX7_nextPart_105 : decode cX7_nextPart 105 = .ok (.ireturn, 1) := by decide +kernel
theorem dX7_nextPart_106 : decode cX7_nextPart 106 = .ok (.aload_n 0, 1) := by decide +kernel
theorem dX7_nextPart_107 : decode cX7_nextPart 107 = .ok (.iload 4, 2) := by decide +kernel
theorem dX7_nextPart_109 : decode cX7_nextPart 109 = .ok (.aload_n 0, 1) := by decide +kernel
theorem dX7_nextPart_110 : decode cX7_nextPart 110 = .ok (.iload_n 1, 1) := by decide +kernel
theorem dX7_nextPart_111 : decode cX7_nextPart 111 = .ok (.invokevirtual 156, 3) := by decide +kernel
theorem dX7_nextPart_114 : decode cX7_nextPart 114 = .ok (.invokevirtual 136, 3) := by decide +kernel
theorem dX7_nextPart_117 : decode cX7_nextPart 117 = .ok (.istore 6, 2) := by decide +kernel
theorem dX7_nextPart_119 : decode cX7_nextPart 119 = .ok (.iconst 0, 1) := by decide +kernel
theorem dX7_nextPart_120 : decode cX7_nextPart 120 = .ok (.istore 7, 2) := by decide +kernel
theorem dX7_nextPart_122 : decode cX7_nextPart 122 = .ok (.iload 7, 2) := by decide +kernel
theorem dX7_nextPart_124 : decode cX7_nextPart 124 = .ok (.iload 6, 2) := by decide +kernel
theorem dX7_nextPart_126 : decode cX7_nextPart 126 = .ok (.if_icmp .ge 33, 3) := by decide +kernel
theorem dX7_nextPart_129 : decode cX7_nextPart 129 = .ok (.aload_n 0, 1) := by decide +kernel
theorem dX7_nextPart_130 : decode cX7_nextPart 130 = .ok (.getfield 19, 3) := by decide +kernel
theorem dX7_nextPart_133 : decode cX7_nextPart 133 = .ok (.bipush 64, 2) := by decide +kernel
theorem dX7_nextPart_135 : decode cX7_nextPart 135 = .ok (.aload_n 0, 1) := by decide +kernel
theorem dX7_nextPart_136 : decode cX7_nextPart 136 = .ok (.getfield 25, 3) := by decide +kernel
theorem dX7_nextPart_139 : decode cX7_nextPart 139 = .ok (.iload_n 2, 1) := by decide +kernel
theorem dX7_nextPart_140 : decode cX7_nextPart 140 = .ok (.iaload, 1) := by decide +kernel
theorem dX7_nextPart_141 : decode cX7_nextPart 141 = .ok (.imul, 1) := by decide +kernel
theorem dX7_nextPart_142 : decode cX7_nextPart 142 = .ok (.iload_n 3, 1) := by decide +kernel
theorem dX7_nextPart_143 : decode cX7_nextPart 143 = .ok (.iadd, 1) := by decide +kernel
theorem dX7_nextPart_144 : decode cX7_nextPart 144 = .ok (.iload 7, 2) := by decide +kernel
theorem dX7_nextPart_146 : decode cX7_nextPart 146 = .ok (.iadd, 1) := by decide +kernel
theorem dX7_nextPart_147 : decode cX7_nextPart 147 = .ok (.aload_n 0, 1) := by decide +kernel
theorem dX7_nextPart_148 : decode cX7_nextPart 148 = .ok (.iload_n 1, 1) := by decide +kernel
theorem dX7_nextPart_149 : decode cX7_nextPart 149 = .ok (.invokevirtual 165, 3) := by decide +kernel
theorem dX7_nextPart_152 : decode cX7_nextPart 152 = .ok (.iastore, 1) := by decide +kernel
theorem dX7_nextPart_153 : decode cX7_nextPart 153 = .ok (.iinc 7 1, 3) := by decide +kernel
theorem dX7_nextPart_156 : decode cX7_nextPart 156 = .ok (.goto (-34), 3) := by decide +kernel
theorem dX7_nextPart_159 : decode cX7_nextPart 159 = .ok (.iload 6, 2) := by decide +kernel
theorem dX7_nextPart_161 : decode cX7_nextPart 161 = .ok (.ireturn, 1) := by decide +kernel
set_option maxRecDepth 20000 in
theorem ggX7_pass_X7_isStream : GoodIn wsX7_pass wsX7_isStream := goodIn_r _ [7] (by decide +kernel) (by decide +kernel)
set_option maxRecDepth 20000 in
theorem gX7_pass_X7_isStream : GoodIn wsX7_pass (wsV RX7 146 RX7 yX7_isStream wsX7_isStream) := goodIn_app (goodIn_of _ (by decide +kernel)) ggX7_pass_X7_isStream
set_option maxRecDepth 20000 in
theorem ggX7_pass_X7_isWrong : GoodIn wsX7_pass wsX7_isWrong := goodIn_r _ [11, 12, 31, 32, 33, 34, 35, 36, 37, 38, 39, 40, 41, 42, 43, 44, 45, 46, 47, 48, 49, 50, 51] (by decide +kernel) (by decide +kernel)
set_option maxRecDepth 20000 in
theorem gX7_pass_X7_isWrong : GoodIn wsX7_pass (wsV RX7 87 RX7 yX7_isWrong wsX7_isWrong) := goodIn_app (goodIn_of _ (by decide +kernel)) ggX7_pass_X7_isWrong
set_option maxRecDepth 20000 in
theorem ggX7_pass_X7_wants : GoodIn wsX7_pass wsX7_wants := goodIn_ca (goodIn_r _ [16, 17, 2, 18, 19, 20, 6, 21, 22, 23, 24, 31, 32, 33, 34, 35, 36, 37, 38, 39, 40, 41, 42, 43, 44, 45, 46, 47, 48, 49, 50, 51] (by decide +kernel) (by decide +kernel)) (goodIn_sub (fun _ h => List.mem_cons_of_mem _ (List.mem_append_right _ h)) (by decide +kernel))
set_option maxRecDepth 20000 in
theorem gX7_pass_X7_wants : GoodIn wsX7_pass (wsV RX7 162 RX7 yX7_wants wsX7_wants) := goodIn_app (goodIn_of _ (by decide +kernel)) ggX7_pass_X7_wants
set_option maxRecDepth 20000 in
theorem ggX7_pass_X7_got : GoodIn wsX7_pass wsX7_got := goodIn_ca (goodIn_r _ [28, 17, 24, 29, 30, 23, 31, 32, 33, 34, 35, 36, 37, 38, 39, 40, 41, 42, 43, 44, 45, 46, 47, 48, 49, 50, 51] (by decide +kernel) (by decide +kernel)) (goodIn_sub (fun _ h => List.mem_cons_of_mem _ (List.mem_append_right _ h)) (by decide +kernel))
set_option maxRecDepth 20000 in
theorem gX7_pass_X7_got : GoodIn wsX7_pass (wsV RX7 165 RX7 yX7_got wsX7_got) := goodIn_app (goodIn_of _ (by decide +kernel)) ggX7_pass_X7_got
theorem dX7_pass_0 : decode cX7_pass 0 = .ok (.aload_n 0, 1) := by decide +kernel
theorem dX7_pass_1 : decode cX7_pass 1 = .ok (.aload_n 0, 1) := by decide +kernel
theorem dX7_pass_2 : decode cX7_pass 2 = .ok (.iload_n 1, 1) := by decide +kernel
theorem dX7_pass_3 : decode cX7_pass 3 = .ok (.invokevirtual 146, 3) := by decide +kernel
theorem dX7_pass_6 : decode cX7_pass 6 = .ok (.ifCond .ne 7, 3) := by decide +kernel
theorem dX7_pass_9 : decode cX7_pass 9 = .ok (.iconst 1, 1) := by decide +kernel
theorem dX7_pass_10 : decode cX7_pass 10 = .ok (.goto 35, 3) := by decide +kernel
theorem dX7_pass_13 : decode cX7_pass 13 = .ok (.lload_n 2, 1) := by decide +kernel
theorem dX7_pass_14 : decode cX7_pass 14 = .ok (.lconst 0, 1) := by decide +kernel
theorem dX7_pass_15 : decode cX7_pass 15 = .ok (.lcmp, 1) := by decide +kernel
theorem dX7_pass_16 : decode cX7_pass 16 = .ok (.ifCond .lt 11, 3) := by decide +kernel
theorem dX7_pass_19 : decode cX7_pass 19 = .ok (.lload_n 2, 1) := by decide +kernel
theorem dX7_pass_20 : decode cX7_pass 20 = .ok (.ldc2_w 171, 3) := by decide +kernel
theorem dX7_pass_23 : decode cX7_pass 23 = .ok (.lcmp, 1) := by decide +kernel
theorem dX7_pass_24 : decode cX7_pass 24 = .ok (.ifCond .le 7, 3) := by decide +kernel
theorem dX7_pass_27 : decode cX7_pass 27 = .ok (.iconst 2, 1) := by decide +kernel
theorem dX7_pass_28 : decode cX7_pass 28 = .ok (.goto 17, 3) := by decide +kernel
theorem dX7_pass_31 : decode cX7_pass 31 = .ok (.aload_n 0, 1) := by decide +kernel
theorem dX7_pass_32 : decode cX7_pass 32 = .ok (.getfield 50, 3) := by decide +kernel
theorem dX7_pass_35 : decode cX7_pass 35 = .ok (.iload_n 1, 1) := by decide +kernel
theorem dX7_pass_36 : decode cX7_pass 36 = .ok (.iaload, 1) := by decide +kernel
theorem dX7_pass_37 : decode cX7_pass 37 = .ok (.ifCond .ne 7, 3) := by decide +kernel
theorem dX7_pass_40 : decode cX7_pass 40 = .ok (.iconst 3, 1) := by decide +kernel
theorem dX7_pass_41 : decode cX7_pass 41 = .ok (.goto 4, 3) := by decide +kernel
theorem dX7_pass_44 : decode cX7_pass 44 = .ok (.iconst 0, 1) := by decide +kernel
theorem dX7_pass_45 : decode cX7_pass 45 = .ok (.invokevirtual 87, 3) := by decide +kernel
theorem dX7_pass_48 : decode cX7_pass 48 = .ok (.ifCond .eq 5, 3) := by decide +kernel
theorem dX7_pass_51 : decode cX7_pass 51 = .ok (.lconst 0, 1) := by decide +kernel
theorem dX7_pass_52 : decode cX7_pass 52 = .ok (.lreturn, 1) := by decide +kernel
theorem dX7_pass_53 : decode cX7_pass 53 = .ok (.lconst 0, 1) := by decide +kernel
theorem dX7_pass_54 : decode cX7_pass 54 = .ok (.lstore 4, 2) := by decide +kernel
theorem dX7_pass_56 : decode cX7_pass 56 = .ok (.lload 4, 2) := by decide +kernel
theorem dX7_pass_58 : decode cX7_pass 58 = .ok (.lload_n 2, 1) := by decide +kernel
theorem dX7_pass_59 : decode cX7_pass 59 = .ok (.lcmp, 1) := by decide +kernel
theorem dX7_pass_60 : decode cX7_pass 60 = .ok (.ifCond .ge 26, 3) := by decide +kernel
theorem dX7_pass_63 : decode cX7_pass 63 = .ok (.aload_n 0, 1) := by decide +kernel
theorem dX7_pass_64 : decode cX7_pass 64 = .ok (.iload_n 1, 1) := by decide +kernel
theorem dX7_pass_65 : decode cX7_pass 65 = .ok (.invokevirtual 162, 3) := by decide +kernel
theorem dX7_pass_68 : decode cX7_pass 68 = .ok (.ifCond .eq 18, 3) := by decide +kernel
theorem dX7_pass_71 : decode cX7_pass 71 = .ok (.aload_n 0, 1) := by decide +kernel
theorem dX7_pass_72 : decode cX7_pass 72 = .ok (.iload_n 1, 1) := by decide +kernel
theorem dX7_pass_73 : decode cX7_pass 73 = .ok (.invokevirtual 165, 3) := by decide +kernel
theorem dX7_pass_76 : decode cX7_pass 76 = .ok (.pop, 1) := by decide +kernel
theorem dX7_pass_77 : decode cX7_pass 77 = .ok (.lload 4, 2) := by decide +kernel
theorem dX7_pass_79 : decode cX7_pass 79 = .ok (.lconst 1, 1) := by decide +kernel
theorem dX7_pass_80 : decode cX7_pass 80 = .ok (.ladd, 1) := by decide +kernel
theorem dX7_pass_81 : decode cX7_pass 81 = .ok (.lstore 4, 2) := by decide +kernel
theorem dX7_pass_83 : decode cX7_pass 83 = .ok (.goto (-27), 3) := by decide +kernel
theorem dX7_pass_86 : decode cX7_pass 86 = .ok (.lload 4, 2) := by decide +kernel
theorem dX7_pass_88 : decode cX7_pass 88 = .ok (.lreturn, 1) := by decide +kernel
set_option maxRecDepth 20000 in
theorem ggX7_left_X7_isUnjoined : GoodIn wsX7_left wsX7_isUnjoined := goodIn_ca (goodIn_r _ [5, 6, 7, 8, 9, 4, 10, 11, 12, 13, 14, 15, 24, 25, 26, 27, 28, 29, 30, 31, 32, 33, 34, 35, 36, 37, 38, 39, 40, 41, 42, 43, 44] (by decide +kernel) (by decide +kernel)) (goodIn_sub (fun _ h => List.mem_cons_of_mem _ (List.mem_append_right _ h)) (by decide +kernel))
set_option maxRecDepth 20000 in
theorem gX7_left_X7_isUnjoined : GoodIn wsX7_left (wsV RX7 159 RX7 yX7_isUnjoined wsX7_isUnjoined) := goodIn_app (goodIn_of _ (by decide +kernel)) ggX7_left_X7_isUnjoined
set_option maxRecDepth 20000 in
theorem ggX7_left_X7_leftIn : GoodIn wsX7_left wsX7_leftIn := goodIn_ca (goodIn_r _ [19, 20, 6, 21, 22, 23, 24, 25, 26, 27, 28, 29, 30, 31, 32, 33, 34, 35, 36, 37, 38, 39, 40, 41, 42, 43, 44] (by decide +kernel) (by decide +kernel)) (goodIn_sub (fun _ h => List.mem_cons_of_mem _ (List.mem_append_right _ h)) (by decide +kernel))
set_option maxRecDepth 20000 in
theorem gX7_left_X7_leftIn : GoodIn wsX7_left (wsV RX7 156 RX7 yX7_leftIn wsX7_leftIn) := goodIn_app (goodIn_of _ (by decide +kernel)) ggX7_left_X7_leftIn
theorem dX7_left_0 : decode cX7_left 0 = .ok (.aload_n 0, 1) := by decide +kernel
theorem dX7_left_1 : decode cX7_left 1 = .ok (.iload_n 1, 1) := by decide +kernel
theorem dX7_left_2 : decode cX7_left 2 = .ok (.invokevirtual 159, 3) := by decide +kernel
theorem dX7_left_5 : decode cX7_left 5 = .ok (.ifCond .eq 7, 3) := by decide +kernel
theorem dX7_left_8 : decode cX7_left 8 = .ok (.iconst 0, 1) := by decide +kernel
theorem dX7_left_9 : decode cX7_left 9 = .ok (.goto 8, 3) := by decide +kernel
theorem dX7_left_12 : decode cX7_left 12 = .ok (.aload_n 0, 1) := by decide +kernel
theorem dX7_left_13 : decode cX7_left 13 = .ok (.iload_n 1, 1) := by decide +kernel
theorem dX7_left_14 : decode cX7_left 14 = .ok (.invokevirtual 156, 3) := by decide +kernel
theorem dX7_left_17 : decode cX7_left 17 = .ok (.ireturn, 1) := by decide +kernel
set_option maxRecDepth 20000 in
theorem ggX7_passedShare_X7_isStream : GoodIn wsX7_passedShare wsX7_isStream := goodIn_r _ [8] (by decide +kernel) (by decide +kernel)
set_option maxRecDepth 20000 in
theorem gX7_passedShare_X7_isStream : GoodIn wsX7_passedShare (wsV RX7 146 RX7 yX7_isStream wsX7_isStream) := goodIn_app (goodIn_of _ (by decide +kernel)) ggX7_passedShare_X7_isStream
set_option maxRecDepth 20000 in
theorem ggX7_passedShare_X7_isWrong : GoodIn wsX7_passedShare wsX7_isWrong := goodIn_r _ [12, 13, 14, 15, 16, 17, 18, 19, 20, 21, 22, 23, 24, 25, 26, 27, 28, 29, 30, 31, 32, 33, 34] (by decide +kernel) (by decide +kernel)
set_option maxRecDepth 20000 in
theorem gX7_passedShare_X7_isWrong : GoodIn wsX7_passedShare (wsV RX7 87 RX7 yX7_isWrong wsX7_isWrong) := goodIn_app (goodIn_of _ (by decide +kernel)) ggX7_passedShare_X7_isWrong
theorem dX7_passedShare_0 : decode cX7_passedShare 0 = .ok (.aload_n 0, 1) := by decide +kernel
theorem dX7_passedShare_1 : decode cX7_passedShare 1 = .ok (.aload_n 0, 1) := by decide +kernel
theorem dX7_passedShare_2 : decode cX7_passedShare 2 = .ok (.iload_n 1, 1) := by decide +kernel
theorem dX7_passedShare_3 : decode cX7_passedShare 3 = .ok (.invokevirtual 146, 3) := by decide +kernel
theorem dX7_passedShare_6 : decode cX7_passedShare 6 = .ok (.ifCond .ne 7, 3) := by decide +kernel
theorem dX7_passedShare_9 : decode cX7_passedShare 9 = .ok (.iconst 1, 1) := by decide +kernel
theorem dX7_passedShare_10 : decode cX7_passedShare 10 = .ok (.goto 30, 3) := by decide +kernel
theorem dX7_passedShare_13 : decode cX7_passedShare 13 = .ok (.aload_n 0, 1) := by decide +kernel
theorem dX7_passedShare_14 : decode cX7_passedShare 14 = .ok (.getfield 50, 3) := by decide +kernel
theorem dX7_passedShare_17 : decode cX7_passedShare 17 = .ok (.iload_n 1, 1) := by decide +kernel
theorem dX7_passedShare_18 : decode cX7_passedShare 18 = .ok (.iaload, 1) := by decide +kernel
theorem dX7_passedShare_19 : decode cX7_passedShare 19 = .ok (.ifCond .ne 7, 3) := by decide +kernel
theorem dX7_passedShare_22 : decode cX7_passedShare 22 = .ok (.iconst 2, 1) := by decide +kernel
theorem dX7_passedShare_23 : decode cX7_passedShare 23 = .ok (.goto 17, 3) := by decide +kernel
theorem dX7_passedShare_26 : decode cX7_passedShare 26 = .ok (.aload_n 0, 1) := by decide +kernel
theorem dX7_passedShare_27 : decode cX7_passedShare 27 = .ok (.getfield 62, 3) := by decide +kernel
theorem dX7_passedShare_30 : decode cX7_passedShare 30 = .ok (.iload_n 1, 1) := by decide +kernel
theorem dX7_passedShare_31 : decode cX7_passedShare 31 = .ok (.iaload, 1) := by decide +kernel
theorem dX7_passedShare_32 : decode cX7_passedShare 32 = .ok (.ifCond .ne 7, 3) := by decide +kernel
theorem dX7_passedShare_35 : decode cX7_passedShare 35 = .ok (.iconst 3, 1) := by decide +kernel
theorem dX7_passedShare_36 : decode cX7_passedShare 36 = .ok (.goto 4, 3) := by decide +kernel
theorem dX7_passedShare_39 : decode cX7_passedShare 39 = .ok (.iconst 0, 1) := by decide +kernel
theorem dX7_passedShare_40 : decode cX7_passedShare 40 = .ok (.invokevirtual 87, 3) := by decide +kernel
theorem dX7_passedShare_43 : decode cX7_passedShare 43 = .ok (.ifCond .eq 5, 3) := by decide +kernel
theorem dX7_passedShare_46 : decode cX7_passedShare 46 = .ok (.fconst 0, 1) := by decide +kernel
theorem dX7_passedShare_47 : decode cX7_passedShare 47 = .ok (.freturn, 1) := by decide +kernel
theorem dX7_passedShare_48 : decode cX7_passedShare 48 = .ok (.aload_n 0, 1) := by decide +kernel
theorem dX7_passedShare_49 : decode cX7_passedShare 49 = .ok (.getfield 65, 3) := by decide +kernel
theorem dX7_passedShare_52 : decode cX7_passedShare 52 = .ok (.iload_n 1, 1) := by decide +kernel
theorem dX7_passedShare_53 : decode cX7_passedShare 53 = .ok (.iaload, 1) := by decide +kernel
theorem dX7_passedShare_54 : decode cX7_passedShare 54 = .ok (.i2f, 1) := by decide +kernel
theorem dX7_passedShare_55 : decode cX7_passedShare 55 = .ok (.aload_n 0, 1) := by decide +kernel
theorem dX7_passedShare_56 : decode cX7_passedShare 56 = .ok (.getfield 62, 3) := by decide +kernel
theorem dX7_passedShare_59 : decode cX7_passedShare 59 = .ok (.iload_n 1, 1) := by decide +kernel
theorem dX7_passedShare_60 : decode cX7_passedShare 60 = .ok (.iaload, 1) := by decide +kernel
theorem dX7_passedShare_61 : decode cX7_passedShare 61 = .ok (.i2f, 1) := by decide +kernel
theorem dX7_passedShare_62 : decode cX7_passedShare 62 = .ok (.fdiv, 1) := by decide +kernel
theorem dX7_passedShare_63 : decode cX7_passedShare 63 = .ok (.freturn, 1) := by decide +kernel
theorem dX7_meanSize_0 : decode cX7_meanSize 0 = .ok (.aload_n 0, 1) := by decide +kernel
theorem dX7_meanSize_1 : decode cX7_meanSize 1 = .ok (.iconst 0, 1) := by decide +kernel
theorem dX7_meanSize_2 : decode cX7_meanSize 2 = .ok (.putfield 71, 3) := by decide +kernel
theorem dX7_meanSize_5 : decode cX7_meanSize 5 = .ok (.iconst 0, 1) := by decide +kernel
theorem dX7_meanSize_6 : decode cX7_meanSize 6 = .ok (.istore_n 1, 1) := by decide +kernel
theorem dX7_meanSize_7 : decode cX7_meanSize 7 = .ok (.iconst 0, 1) := by decide +kernel
theorem dX7_meanSize_8 : decode cX7_meanSize 8 = .ok (.istore_n 2, 1) := by decide +kernel
theorem dX7_meanSize_9 : decode cX7_meanSize 9 = .ok (.iload_n 2, 1) := by decide +kernel
theorem dX7_meanSize_10 : decode cX7_meanSize 10 = .ok (.bipush 6, 2) := by decide +kernel
theorem dX7_meanSize_12 : decode cX7_meanSize 12 = .ok (.if_icmp .ge 18, 3) := by decide +kernel
theorem dX7_meanSize_15 : decode cX7_meanSize 15 = .ok (.iload_n 1, 1) := by decide +kernel
theorem dX7_meanSize_16 : decode cX7_meanSize 16 = .ok (.aload_n 0, 1) := by decide +kernel
theorem dX7_meanSize_17 : decode cX7_meanSize 17 = .ok (.getfield 31, 3) := by decide +kernel
theorem dX7_meanSize_20 : decode cX7_meanSize 20 = .ok (.iload_n 2, 1) := by decide +kernel
theorem dX7_meanSize_21 : decode cX7_meanSize 21 = .ok (.iaload, 1) := by decide +kernel
theorem dX7_meanSize_22 : decode cX7_meanSize 22 = .ok (.iadd, 1) := by decide +kernel
theorem dX7_meanSize_23 : decode cX7_meanSize 23 = .ok (.istore_n 1, 1) := by decide +kernel
theorem dX7_meanSize_24 : decode cX7_meanSize 24 = .ok (.iinc 2 1, 3) := by decide +kernel
theorem dX7_meanSize_27 : decode cX7_meanSize 27 = .ok (.goto (-18), 3) := by decide +kernel
theorem dX7_meanSize_30 : decode cX7_meanSize 30 = .ok (.iload_n 1, 1) := by decide +kernel
theorem dX7_meanSize_31 : decode cX7_meanSize 31 = .ok (.i2d, 1) := by decide +kernel
theorem dX7_meanSize_32 : decode cX7_meanSize 32 = .ok (.ldc2_w 173, 3) := by decide +kernel
theorem dX7_meanSize_35 : decode cX7_meanSize 35 = .ok (.ddiv, 1) := by decide +kernel
theorem dX7_meanSize_36 : decode cX7_meanSize 36 = .ok (.dreturn, 1) := by decide +kernel
set_option maxRecDepth 20000 in
theorem ggX7_checksum_X7_signLength : GoodIn wsX7_checksum wsX7_signLength := goodIn_ca (goodIn_r _ [16, 17, 5, 25, 26, 27, 28, 29, 30, 31, 32, 33, 34, 35, 36, 37, 38, 39, 40, 41, 42, 43, 44, 45] (by decide +kernel) (by decide +kernel)) (goodIn_sub (fun _ h => List.mem_cons_of_mem _ (List.mem_append_right _ h)) (by decide +kernel))
set_option maxRecDepth 20000 in
theorem gX7_checksum_X7_signLength : GoodIn wsX7_checksum (wsV RX7 79 RX7 yX7_signLength wsX7_signLength) := goodIn_app (goodIn_of _ (by decide +kernel)) ggX7_checksum_X7_signLength
set_option maxRecDepth 20000 in
theorem ggX7_checksum_X7_leftIn : GoodIn wsX7_checksum wsX7_leftIn := goodIn_ca (goodIn_r _ [21, 22, 11, 6, 23, 24, 25, 26, 27, 28, 29, 30, 31, 32, 33, 34, 35, 36, 37, 38, 39, 40, 41, 42, 43, 44, 45] (by decide +kernel) (by decide +kernel)) (goodIn_sub (fun _ h => List.mem_cons_of_mem _ (List.mem_append_right _ h)) (by decide +kernel))
set_option maxRecDepth 20000 in
theorem gX7_checksum_X7_leftIn : GoodIn wsX7_checksum (wsV RX7 156 RX7 yX7_leftIn wsX7_leftIn) := goodIn_app (goodIn_of _ (by decide +kernel)) ggX7_checksum_X7_leftIn
theorem dX7_checksum_0 : decode cX7_checksum 0 = .ok (.aload_n 0, 1) := by decide +kernel
theorem dX7_checksum_1 : decode cX7_checksum 1 = .ok (.iconst 0, 1) := by decide +kernel
theorem dX7_checksum_2 : decode cX7_checksum 2 = .ok (.putfield 71, 3) := by decide +kernel
theorem dX7_checksum_5 : decode cX7_checksum 5 = .ok (.ldc2_w 175, 3) := by decide +kernel
theorem dX7_checksum_8 : decode cX7_checksum 8 = .ok (.lstore_n 1, 1) := by decide +kernel
theorem dX7_checksum_9 : decode cX7_checksum 9 = .ok (.iconst 0, 1) := by decide +kernel
theorem dX7_checksum_10 : decode cX7_checksum 10 = .ok (.istore_n 3, 1) := by decide +kernel
theorem dX7_checksum_11 : decode cX7_checksum 11 = .ok (.iload_n 3, 1) := by decide +kernel
theorem dX7_checksum_12 : decode cX7_checksum 12 = .ok (.iconst 4, 1) := by decide +kernel
theorem dX7_checksum_13 : decode cX7_checksum 13 = .ok (.if_icmp .ge 67, 3) := by decide +kernel
theorem dX7_checksum_16 : decode cX7_checksum 16 = .ok (.ldc2_w 177, 3) := by decide +kernel
theorem dX7_checksum_19 : decode cX7_checksum 19 = .ok (.lload_n 1, 1) := by decide +kernel
theorem dX7_checksum_20 : decode cX7_checksum 20 = .ok (.lmul, 1) := by decide +kernel
theorem dX7_checksum_21 : decode cX7_checksum 21 = .ok (.aload_n 0, 1) := by decide +kernel
theorem dX7_checksum_22 : decode cX7_checksum 22 = .ok (.iload_n 3, 1) := by decide +kernel
theorem dX7_checksum_23 : decode cX7_checksum 23 = .ok (.invokevirtual 79, 3) := by decide +kernel
theorem dX7_checksum_26 : decode cX7_checksum 26 = .ok (.i2l, 1) := by decide +kernel
theorem dX7_checksum_27 : decode cX7_checksum 27 = .ok (.ladd, 1) := by decide +kernel
theorem dX7_checksum_28 : decode cX7_checksum 28 = .ok (.lstore_n 1, 1) := by decide +kernel
theorem dX7_checksum_29 : decode cX7_checksum 29 = .ok (.iconst 0, 1) := by decide +kernel
theorem dX7_checksum_30 : decode cX7_checksum 30 = .ok (.istore 4, 2) := by decide +kernel
theorem dX7_checksum_32 : decode cX7_checksum 32 = .ok (.iload 4, 2) := by decide +kernel
theorem dX7_checksum_34 : decode cX7_checksum 34 = .ok (.aload_n 0, 1) := by decide +kernel
theorem dX7_checksum_35 : decode cX7_checksum 35 = .ok (.iload_n 3, 1) := by decide +kernel
theorem dX7_checksum_36 : decode cX7_checksum 36 = .ok (.invokevirtual 79, 3) := by decide +kernel
theorem dX7_checksum_39 : decode cX7_checksum 39 = .ok (.if_icmp .ge 35, 3) := by decide +kernel
theorem dX7_checksum_42 : decode cX7_checksum 42 = .ok (.ldc2_w 177, 3) := by decide +kernel
theorem dX7_checksum_45 : decode cX7_checksum 45 = .ok (.lload_n 1, 1) := by decide +kernel
theorem dX7_checksum_46 : decode cX7_checksum 46 = .ok (.lmul, 1) := by decide +kernel
theorem dX7_checksum_47 : decode cX7_checksum 47 = .ok (.aload_n 0, 1) := by decide +kernel
theorem dX7_checksum_48 : decode cX7_checksum 48 = .ok (.getfield 7, 3) := by decide +kernel
theorem dX7_checksum_51 : decode cX7_checksum 51 = .ok (.sipush 256, 3) := by decide +kernel
theorem dX7_checksum_54 : decode cX7_checksum 54 = .ok (.aload_n 0, 1) := by decide +kernel
theorem dX7_checksum_55 : decode cX7_checksum 55 = .ok (.getfield 16, 3) := by decide +kernel
theorem dX7_checksum_58 : decode cX7_checksum 58 = .ok (.iload_n 3, 1) := by decide +kernel
theorem dX7_checksum_59 : decode cX7_checksum 59 = .ok (.iaload, 1) := by decide +kernel
theorem dX7_checksum_60 : decode cX7_checksum 60 = .ok (.imul, 1) := by decide +kernel
theorem dX7_checksum_61 : decode cX7_checksum 61 = .ok (.iload 4, 2) := by decide +kernel
theorem dX7_checksum_63 : decode cX7_checksum 63 = .ok (.iadd, 1) := by decide +kernel
theorem dX7_checksum_64 : decode cX7_checksum 64 = .ok (.iaload, 1) := by decide +kernel
theorem dX7_checksum_65 : decode cX7_checksum 65 = .ok (.i2l, 1) := by decide +kernel
theorem dX7_checksum_66 : decode cX7_checksum 66 = .ok (.ladd, 1) := by decide +kernel
theorem dX7_checksum_67 : decode cX7_checksum 67 = .ok (.lstore_n 1, 1) := by decide +kernel
theorem dX7_checksum_68 : decode cX7_checksum 68 = .ok (.iinc 4 1, 3) := by decide +kernel
theorem dX7_checksum_71 : decode cX7_checksum 71 = .ok (.goto (-39), 3) := by decide +kernel
theorem dX7_checksum_74 : decode cX7_checksum 74 = .ok (.iinc 3 1, 3) := by decide +kernel
theorem dX7_checksum_77 : decode cX7_checksum 77 = .ok (.goto (-66), 3) := by decide +kernel
theorem dX7_checksum_80 : decode cX7_checksum 80 = .ok (.iconst 0, 1) := by decide +kernel
theorem dX7_checksum_81 : decode cX7_checksum 81 = .ok (.istore_n 3, 1) := by decide +kernel
theorem dX7_checksum_82 : decode cX7_checksum 82 = .ok (.iload_n 3, 1) := by decide +kernel
theorem dX7_checksum_83 : decode cX7_checksum 83 = .ok (.iconst 4, 1) := by decide +kernel
theorem dX7_checksum_84 : decode cX7_checksum 84 = .ok (.if_icmp .ge 73, 3) := by decide +kernel
theorem dX7_checksum_87 : decode cX7_checksum 87 = .ok (.aload_n 0, 1) := by decide +kernel
theorem dX7_checksum_88 : decode cX7_checksum 88 = .ok (.getfield 22, 3) := by decide +kernel
theorem dX7_checksum_91 : decode cX7_checksum 91 = .ok (.aload_n 0, 1) := by decide +kernel
theorem dX7_checksum_92 : decode cX7_checksum 92 = .ok (.getfield 25, 3) := by decide +kernel
theorem dX7_checksum_95 : decode cX7_checksum 95 = .ok (.iload_n 3, 1) := by decide +kernel
theorem dX7_checksum_96 : decode cX7_checksum 96 = .ok (.iaload, 1) := by decide +kernel
theorem dX7_checksum_97 : decode cX7_checksum 97 = .ok (.iaload, 1) := by decide +kernel
theorem dX7_checksum_98 : decode cX7_checksum 98 = .ok (.istore 4, 2) := by decide +kernel
theorem dX7_checksum_100 : decode cX7_checksum 100 = .ok (.ldc2_w 177, 3) := by decide +kernel
theorem dX7_checksum_103 : decode cX7_checksum 103 = .ok (.lload_n 1, 1) := by decide +kernel
theorem dX7_checksum_104 : decode cX7_checksum 104 = .ok (.lmul, 1) := by decide +kernel
theorem dX7_checksum_105 : decode cX7_checksum 105 = .ok (.iload 4, 2) := by decide +kernel
theorem dX7_checksum_107 : decode cX7_checksum 107 = .ok (.i2l, 1) := by decide +kernel
theorem dX7_checksum_108 : decode cX7_checksum 108 = .ok (.ladd, 1) := by decide +kernel
theorem dX7_checksum_109 : decode cX7_checksum 109 = .ok (.lstore_n 1, 1) := by decide +kernel
theorem dX7_checksum_110 : decode cX7_checksum 110 = .ok (.iconst 0, 1) := by decide +kernel
theorem dX7_checksum_111 : decode cX7_checksum 111 = .ok (.istore 5, 2) := by decide +kernel
theorem dX7_checksum_113 : decode cX7_checksum 113 = .ok (.iload 5, 2) := by decide +kernel
theorem dX7_checksum_115 : decode cX7_checksum 115 = .ok (.iload 4, 2) := by decide +kernel
theorem dX7_checksum_117 : decode cX7_checksum 117 = .ok (.if_icmp .ge 34, 3) := by decide +kernel
theorem dX7_checksum_120 : decode cX7_checksum 120 = .ok (.ldc2_w 177, 3) := by decide +kernel
theorem dX7_checksum_123 : decode cX7_checksum 123 = .ok (.lload_n 1, 1) := by decide +kernel
theorem dX7_checksum_124 : decode cX7_checksum 124 = .ok (.lmul, 1) := by decide +kernel
theorem dX7_checksum_125 : decode cX7_checksum 125 = .ok (.aload_n 0, 1) := by decide +kernel
theorem dX7_checksum_126 : decode cX7_checksum 126 = .ok (.getfield 19, 3) := by decide +kernel
theorem dX7_checksum_129 : decode cX7_checksum 129 = .ok (.bipush 64, 2) := by decide +kernel
theorem dX7_checksum_131 : decode cX7_checksum 131 = .ok (.aload_n 0, 1) := by decide +kernel
theorem dX7_checksum_132 : decode cX7_checksum 132 = .ok (.getfield 25, 3) := by decide +kernel
theorem dX7_checksum_135 : decode cX7_checksum 135 = .ok (.iload_n 3, 1) := by decide +kernel
theorem dX7_checksum_136 : decode cX7_checksum 136 = .ok (.iaload, 1) := by decide +kernel
theorem dX7_checksum_137 : decode cX7_checksum 137 = .ok (.imul, 1) := by decide +kernel
theorem dX7_checksum_138 : decode cX7_checksum 138 = .ok (.iload 5, 2) := by decide +kernel
theorem dX7_checksum_140 : decode cX7_checksum 140 = .ok (.iadd, 1) := by decide +kernel
theorem dX7_checksum_141 : decode cX7_checksum 141 = .ok (.iaload, 1) := by decide +kernel
theorem dX7_checksum_142 : decode cX7_checksum 142 = .ok (.i2l, 1) := by decide +kernel
theorem dX7_checksum_143 : decode cX7_checksum 143 = .ok (.ladd, 1) := by decide +kernel
theorem dX7_checksum_144 : decode cX7_checksum 144 = .ok (.lstore_n 1, 1) := by decide +kernel
theorem dX7_checksum_145 : decode cX7_checksum 145 = .ok (.iinc 5 1, 3) := by decide +kernel
theorem dX7_checksum_148 : decode cX7_checksum 148 = .ok (.goto (-35), 3) := by decide +kernel
theorem dX7_checksum_151 : decode cX7_checksum 151 = .ok (.iinc 3 1, 3) := by decide +kernel
theorem dX7_checksum_154 : decode cX7_checksum 154 = .ok (.goto (-72), 3) := by decide +kernel
theorem dX7_checksum_157 : decode cX7_checksum 157 = .ok (.iconst 0, 1) := by decide +kernel
theorem dX7_checksum_158 : decode cX7_checksum 158 = .ok (.istore_n 3, 1) := by decide +kernel
theorem dX7_checksum_159 : decode cX7_checksum 159 = .ok (.iload_n 3, 1) := by decide +kernel
theorem dX7_checksum_160 : decode cX7_checksum 160 = .ok (.bipush 6, 2) := by decide +kernel
theorem dX7_checksum_162 : decode cX7_checksum 162 = .ok (.if_icmp .ge 64, 3) := by decide +kernel
theorem dX7_checksum_165 : decode cX7_checksum 165 = .ok (.ldc2_w 177, 3) := by decide +kernel
theorem dX7_checksum_168 : decode cX7_checksum 168 = .ok (.lload_n 1, 1) := by decide +kernel
theorem dX7_checksum_169 : decode cX7_checksum 169 = .ok (.lmul, 1) := by decide +kernel
theorem dX7_checksum_170 : decode cX7_checksum 170 = .ok (.aload_n 0, 1) := by decide +kernel
theorem dX7_checksum_171 : decode cX7_checksum 171 = .ok (.getfield 31, 3) := by decide +kernel
theorem dX7_checksum_174 : decode cX7_checksum 174 = .ok (.iload_n 3, 1) := by decide +kernel
theorem dX7_checksum_175 : decode cX7_checksum 175 = .ok (.iaload, 1) := by decide +kernel
theorem dX7_checksum_176 : decode cX7_checksum 176 = .ok (.i2l, 1) := by decide +kernel
theorem dX7_checksum_177 : decode cX7_checksum 177 = .ok (.ladd, 1) := by decide +kernel
theorem dX7_checksum_178 : decode cX7_checksum 178 = .ok (.lstore_n 1, 1) := by decide +kernel
theorem dX7_checksum_179 : decode cX7_checksum 179 = .ok (.iconst 0, 1) := by decide +kernel
theorem dX7_checksum_180 : decode cX7_checksum 180 = .ok (.istore 4, 2) := by decide +kernel
theorem dX7_checksum_182 : decode cX7_checksum 182 = .ok (.iload 4, 2) := by decide +kernel
theorem dX7_checksum_184 : decode cX7_checksum 184 = .ok (.aload_n 0, 1) := by decide +kernel
theorem dX7_checksum_185 : decode cX7_checksum 185 = .ok (.getfield 31, 3) := by decide +kernel
theorem dX7_checksum_188 : decode cX7_checksum 188 = .ok (.iload_n 3, 1) := by decide +kernel
theorem dX7_checksum_189 : decode cX7_checksum 189 = .ok (.iaload, 1) := by decide +kernel
theorem dX7_checksum_190 : decode cX7_checksum 190 = .ok (.if_icmp .ge 30, 3) := by decide +kernel
theorem dX7_checksum_193 : decode cX7_checksum 193 = .ok (.ldc2_w 177, 3) := by decide +kernel
theorem dX7_checksum_196 : decode cX7_checksum 196 = .ok (.lload_n 1, 1) := by decide +kernel
theorem dX7_checksum_197 : decode cX7_checksum 197 = .ok (.lmul, 1) := by decide +kernel
theorem dX7_checksum_198 : decode cX7_checksum 198 = .ok (.aload_n 0, 1) := by decide +kernel
theorem dX7_checksum_199 : decode cX7_checksum 199 = .ok (.getfield 28, 3) := by decide +kernel
theorem dX7_checksum_202 : decode cX7_checksum 202 = .ok (.sipush 256, 3) := by decide +kernel
theorem dX7_checksum_205 : decode cX7_checksum 205 = .ok (.iload_n 3, 1) := by decide +kernel
theorem dX7_checksum_206 : decode cX7_checksum 206 = .ok (.imul, 1) := by decide +kernel
theorem dX7_checksum_207 : decode cX7_checksum 207 = .ok (.iload 4, 2) := by decide +kernel
theorem dX7_checksum_209 : decode cX7_checksum 209 = .ok (.iadd, 1) := by decide +kernel
theorem dX7_checksum_210 : decode cX7_checksum 210 = .ok (.iaload, 1) := by decide +kernel
theorem dX7_checksum_211 : decode cX7_checksum 211 = .ok (.i2l, 1) := by decide +kernel
theorem dX7_checksum_212 : decode cX7_checksum 212 = .ok (.ladd, 1) := by decide +kernel
theorem dX7_checksum_213 : decode cX7_checksum 213 = .ok (.lstore_n 1, 1) := by decide +kernel
theorem dX7_checksum_214 : decode cX7_checksum 214 = .ok (.iinc 4 1, 3) := by decide +kernel
theorem dX7_checksum_217 : decode cX7_checksum 217 = .ok (.goto (-35), 3) := by decide +kernel
theorem dX7_checksum_220 : decode cX7_checksum 220 = .ok (.iinc 3 1, 3) := by decide +kernel
theorem dX7_checksum_223 : decode cX7_checksum 223 = .ok (.goto (-64), 3) := by decide +kernel
theorem dX7_checksum_226 : decode cX7_checksum 226 = .ok (.iconst 0, 1) := by decide +kernel
theorem dX7_checksum_227 : decode cX7_checksum 227 = .ok (.istore_n 3, 1) := by decide +kernel
theorem dX7_checksum_228 : decode cX7_checksum 228 = .ok (.iload_n 3, 1) := by decide +kernel
theorem dX7_checksum_229 : decode cX7_checksum 229 = .ok (.iconst 2, 1) := by decide +kernel
theorem dX7_checksum_230 : decode cX7_checksum 230 = .ok (.if_icmp .ge 35, 3) := by decide +kernel
theorem dX7_checksum_233 : decode cX7_checksum 233 = .ok (.ldc2_w 177, 3) := by decide +kernel
theorem dX7_checksum_236 : decode cX7_checksum 236 = .ok (.lload_n 1, 1) := by decide +kernel
theorem dX7_checksum_237 : decode cX7_checksum 237 = .ok (.lmul, 1) := by decide +kernel
theorem dX7_checksum_238 : decode cX7_checksum 238 = .ok (.aload_n 0, 1) := by decide +kernel
theorem dX7_checksum_239 : decode cX7_checksum 239 = .ok (.getfield 50, 3) := by decide +kernel
theorem dX7_checksum_242 : decode cX7_checksum 242 = .ok (.iload_n 3, 1) := by decide +kernel
theorem dX7_checksum_243 : decode cX7_checksum 243 = .ok (.iaload, 1) := by decide +kernel
theorem dX7_checksum_244 : decode cX7_checksum 244 = .ok (.ifCond .ne 7, 3) := by decide +kernel
theorem dX7_checksum_247 : decode cX7_checksum 247 = .ok (.iconst (-1), 1) := by decide +kernel
theorem dX7_checksum_248 : decode cX7_checksum 248 = .ok (.goto 8, 3) := by decide +kernel
theorem dX7_checksum_251 : decode cX7_checksum 251 = .ok (.aload_n 0, 1) := by decide +kernel
theorem dX7_checksum_252 : decode cX7_checksum 252 = .ok (.iload_n 3, 1) := by decide +kernel
theorem dX7_checksum_253 : decode cX7_checksum 253 = .ok (.invokevirtual 156, 3) := by decide +kernel
theorem dX7_checksum_256 : decode cX7_checksum 256 = .ok (.i2l, 1) := by decide +kernel
theorem dX7_checksum_257 : decode cX7_checksum 257 = .ok (.ladd, 1) := by decide +kernel
theorem dX7_checksum_258 : decode cX7_checksum 258 = .ok (.lstore_n 1, 1) := by decide +kernel
theorem dX7_checksum_259 : decode cX7_checksum 259 = .ok (.iinc 3 1, 3) := by decide +kernel
theorem dX7_checksum_262 : decode cX7_checksum 262 = .ok (.goto (-34), 3) := by decide +kernel
theorem dX7_checksum_265 : decode cX7_checksum 265 = .ok (.lload_n 1, 1) := by decide +kernel
theorem dX7_checksum_266 : decode cX7_checksum 266 = .ok (.lreturn, 1) := by decide +kernel
theorem dX7_isTrue_0 : decode cX7_isTrue 0 = .ok (.aload_n 0, 1) := by decide +kernel
theorem dX7_isTrue_1 : decode cX7_isTrue 1 = .ok (.iconst 0, 1) := by decide +kernel
theorem dX7_isTrue_2 : decode cX7_isTrue 2 = .ok (.putfield 71, 3) := by decide +kernel
theorem dX7_isTrue_5 : decode cX7_isTrue 5 = .ok (.iconst 1, 1) := by decide +kernel
theorem dX7_isTrue_6 : decode cX7_isTrue 6 = .ok (.istore_n 1, 1) := by decide +kernel
theorem dX7_isTrue_7 : decode cX7_isTrue 7 = .ok (.iconst 0, 1) := by decide +kernel
theorem dX7_isTrue_8 : decode cX7_isTrue 8 = .ok (.istore_n 2, 1) := by decide +kernel
theorem dX7_isTrue_9 : decode cX7_isTrue 9 = .ok (.iload_n 2, 1) := by decide +kernel
theorem dX7_isTrue_10 : decode cX7_isTrue 10 = .ok (.iconst 3, 1) := by decide +kernel
theorem dX7_isTrue_11 : decode cX7_isTrue 11 = .ok (.if_icmp .ge 56, 3) := by decide +kernel
theorem dX7_isTrue_14 : decode cX7_isTrue 14 = .ok (.iload_n 1, 1) := by decide +kernel
theorem dX7_isTrue_15 : decode cX7_isTrue 15 = .ok (.aload_n 0, 1) := by decide +kernel
theorem dX7_isTrue_16 : decode cX7_isTrue 16 = .ok (.getfield 34, 3) := by decide +kernel
theorem dX7_isTrue_19 : decode cX7_isTrue 19 = .ok (.iload_n 2, 1) := by decide +kernel
theorem dX7_isTrue_20 : decode cX7_isTrue 20 = .ok (.iaload, 1) := by decide +kernel
theorem dX7_isTrue_21 : decode cX7_isTrue 21 = .ok (.ifCond .lt 33, 3) := by decide +kernel
theorem dX7_isTrue_24 : decode cX7_isTrue 24 = .ok (.aload_n 0, 1) := by decide +kernel
theorem dX7_isTrue_25 : decode cX7_isTrue 25 = .ok (.getfield 43, 3) := by decide +kernel
theorem dX7_isTrue_28 : decode cX7_isTrue 28 = .ok (.iload_n 2, 1) := by decide +kernel
theorem dX7_isTrue_29 : decode cX7_isTrue 29 = .ok (.iaload, 1) := by decide +kernel
theorem dX7_isTrue_30 : decode cX7_isTrue 30 = .ok (.aload_n 0, 1) := by decide +kernel
theorem dX7_isTrue_31 : decode cX7_isTrue 31 = .ok (.getfield 40, 3) := by decide +kernel
theorem dX7_isTrue_34 : decode cX7_isTrue 34 = .ok (.iload_n 2, 1) := by decide +kernel
theorem dX7_isTrue_35 : decode cX7_isTrue 35 = .ok (.iaload, 1) := by decide +kernel
theorem dX7_isTrue_36 : decode cX7_isTrue 36 = .ok (.if_icmp .gt 22, 3) := by decide +kernel
theorem dX7_isTrue_39 : decode cX7_isTrue 39 = .ok (.aload_n 0, 1) := by decide +kernel
theorem dX7_isTrue_40 : decode cX7_isTrue 40 = .ok (.getfield 37, 3) := by decide +kernel
theorem dX7_isTrue_43 : decode cX7_isTrue 43 = .ok (.iload_n 2, 1) := by decide +kernel
theorem dX7_isTrue_44 : decode cX7_isTrue 44 = .ok (.iaload, 1) := by decide +kernel
theorem dX7_isTrue_45 : decode cX7_isTrue 45 = .ok (.aload_n 0, 1) := by decide +kernel
theorem dX7_isTrue_46 : decode cX7_isTrue 46 = .ok (.getfield 40, 3) := by decide +kernel
theorem dX7_isTrue_49 : decode cX7_isTrue 49 = .ok (.iload_n 2, 1) := by decide +kernel
theorem dX7_isTrue_50 : decode cX7_isTrue 50 = .ok (.iaload, 1) := by decide +kernel
theorem dX7_isTrue_51 : decode cX7_isTrue 51 = .ok (.if_icmp .gt 7, 3) := by decide +kernel
theorem dX7_isTrue_54 : decode cX7_isTrue 54 = .ok (.iconst 1, 1) := by decide +kernel
theorem dX7_isTrue_55 : decode cX7_isTrue 55 = .ok (.goto 4, 3) := by decide +kernel
theorem dX7_isTrue_58 : decode cX7_isTrue 58 = .ok (.iconst 0, 1) := by decide +kernel
theorem dX7_isTrue_59 : decode cX7_isTrue 59 = .ok (.iand, 1) := by decide +kernel
theorem dX7_isTrue_60 : decode cX7_isTrue 60 = .ok (.istore_n 1, 1) := by decide +kernel
theorem dX7_isTrue_61 : decode cX7_isTrue 61 = .ok (.iinc 2 1, 3) := by decide +kernel
theorem dX7_isTrue_64 : decode cX7_isTrue 64 = .ok (.goto (-55), 3) := by decide +kernel
theorem dX7_isTrue_67 : decode cX7_isTrue 67 = .ok (.iload_n 1, 1) := by decide +kernel
theorem dX7_isTrue_68 : decode cX7_isTrue 68 = .ok (.ireturn, 1) := by decide +kernel
theorem dJx00060_init_a7421_0 : decode cJx00060_init_a7421 0 = .ok (.aload_n 0, 1) := by decide +kernel
theorem dJx00060_init_a7421_1 : decode cJx00060_init_a7421 1 = .ok (.aload_n 1, 1) := by decide +kernel
theorem dJx00060_init_a7421_2 : decode cJx00060_init_a7421 2 = .ok (.invokespecial 7, 3) := by decide +kernel
theorem dJx00060_init_a7421_5 : decode cJx00060_init_a7421 5 = .ok (.return_, 1) := by decide +kernel
theorem dJ9_max_f86c9_0 : decode cJ9_max_f86c9 0 = .ok (.lload_n 0, 1) := by decide +kernel
theorem dJ9_max_f86c9_1 : decode cJ9_max_f86c9 1 = .ok (.lload_n 2, 1) := by decide +kernel
theorem dJ9_max_f86c9_2 : decode cJ9_max_f86c9 2 = .ok (.lcmp, 1) := by decide +kernel
theorem dJ9_max_f86c9_3 : decode cJ9_max_f86c9 3 = .ok (.ifCond .lt 7, 3) := by decide +kernel
theorem dJ9_max_f86c9_6 : decode cJ9_max_f86c9 6 = .ok (.lload_n 0, 1) := by decide +kernel
theorem dJ9_max_f86c9_7 : decode cJ9_max_f86c9 7 = .ok (.goto 4, 3) := by decide +kernel
theorem dJ9_max_f86c9_10 : decode cJ9_max_f86c9 10 = .ok (.lload_n 2, 1) := by decide +kernel
theorem dJ9_max_f86c9_11 : decode cJ9_max_f86c9 11 = .ok (.lreturn, 1) := by decide +kernel
theorem dJ9_min_7cf53_0 : decode cJ9_min_7cf53 0 = .ok (.iload_n 0, 1) := by decide +kernel
theorem dJ9_min_7cf53_1 : decode cJ9_min_7cf53 1 = .ok (.iload_n 1, 1) := by decide +kernel
theorem dJ9_min_7cf53_2 : decode cJ9_min_7cf53 2 = .ok (.if_icmp .gt 7, 3) := by decide +kernel
theorem dJ9_min_7cf53_5 : decode cJ9_min_7cf53 5 = .ok (.iload_n 0, 1) := by decide +kernel
theorem dJ9_min_7cf53_6 : decode cJ9_min_7cf53 6 = .ok (.goto 4, 3) := by decide +kernel
theorem dJ9_min_7cf53_9 : decode cJ9_min_7cf53 9 = .ok (.iload_n 1, 1) := by decide +kernel
theorem dJ9_min_7cf53_10 : decode cJ9_min_7cf53 10 = .ok (.ireturn, 1) := by decide +kernel
theorem dJ9_min_f86c9_0 : decode cJ9_min_f86c9 0 = .ok (.lload_n 0, 1) := by decide +kernel
theorem dJ9_min_f86c9_1 : decode cJ9_min_f86c9 1 = .ok (.lload_n 2, 1) := by decide +kernel
theorem dJ9_min_f86c9_2 : decode cJ9_min_f86c9 2 = .ok (.lcmp, 1) := by decide +kernel
theorem dJ9_min_f86c9_3 : decode cJ9_min_f86c9 3 = .ok (.ifCond .gt 7, 3) := by decide +kernel
theorem dJ9_min_f86c9_6 : decode cJ9_min_f86c9 6 = .ok (.lload_n 0, 1) := by decide +kernel
theorem dJ9_min_f86c9_7 : decode cJ9_min_f86c9 7 = .ok (.goto 4, 3) := by decide +kernel
theorem dJ9_min_f86c9_10 : decode cJ9_min_f86c9 10 = .ok (.lload_n 2, 1) := by decide +kernel
theorem dJ9_min_f86c9_11 : decode cJ9_min_f86c9 11 = .ok (.lreturn, 1) := by decide +kernel
set_option maxRecDepth 20000 in
theorem ggL_make_X6_make : GoodIn wsL_make wsX6_make := goodIn_ca (goodIn_ca (goodIn_r _ [7, 8, 9, 10, 11, 12, 13, 14, 15, 16, 17, 6, 18, 19, 20, 21, 22, 23, 24, 25, 26, 27, 28, 29, 30, 31, 32, 33, 34, 35, 36] (by decide +kernel) (by decide +kernel)) (goodIn_sub (fun _ h => List.mem_cons_of_mem _ (List.mem_append_left _ (List.mem_append_right _ h))) (by decide +kernel))) (goodIn_sub (fun _ h => List.mem_cons_of_mem _ (List.mem_append_right _ h)) (by decide +kernel))
set_option maxRecDepth 20000 in
theorem gL_make_X6_make : GoodIn wsL_make (wsV RL 7 RX6 yX6_make wsX6_make) := goodIn_app (goodIn_of _ (by decide +kernel)) ggL_make_X6_make
theorem dL_make_0 : decode cL_make 0 = .ok (.aload_n 3, 1) := by decide +kernel
theorem dL_make_1 : decode cL_make 1 = .ok (.iconst 0, 1) := by decide +kernel
theorem dL_make_2 : decode cL_make 2 = .ok (.aload_n 0, 1) := by decide +kernel
theorem dL_make_3 : decode cL_make 3 = .ok (.iload_n 1, 1) := by decide +kernel
theorem dL_make_4 : decode cL_make 4 = .ok (.iload_n 2, 1) := by decide +kernel
theorem dL_make_5 : decode cL_make 5 = .ok (.invokevirtual 7, 3) := by decide +kernel
theorem dL_make_8 : decode cL_make 8 = .ok (.i2l, 1) := by decide +kernel
theorem dL_make_9 : decode cL_make 9 = .ok (.lastore, 1) := by decide +kernel
theorem dL_make_10 : decode cL_make 10 = .ok (.goto 11, 3) := by decide +kernel
theorem dL_make_13 : decode cL_make 13 = .ok (.astore 4, 2) := by decide +kernel
theorem dL_make_15 : decode cL_make 15 = .ok (.iconst 1, 1) := by decide +kernel
theorem dL_make_16 : decode cL_make 16 = .ok (.ireturn, 1) := by decide +kernel
theorem dL_make_17 : decode cL_make 17 = .ok (.astore 4, 2) := by decide +kernel
theorem dL_make_19 : decode cL_make 19 = .ok (.iconst 2, 1) := by decide +kernel
theorem dL_make_20 : decode cL_make 20 = .ok (.ireturn, 1) := by decide +kernel
theorem dL_make_21 : decode cL_make 21 = .ok (.iconst 0, 1) := by decide +kernel
theorem dL_make_22 : decode cL_make 22 = .ok (.ireturn, 1) := by decide +kernel
set_option maxRecDepth 20000 in
theorem ggL_put_X6_put : GoodIn wsL_put wsX6_put := goodIn_ca (goodIn_ca (goodIn_r _ [6, 7, 8, 9, 10, 5, 11, 12, 13, 14, 15, 16, 17, 18, 19, 20, 21, 22, 23, 24, 25, 26, 27, 28] (by decide +kernel) (by decide +kernel)) (goodIn_sub (fun _ h => List.mem_cons_of_mem _ (List.mem_append_left _ (List.mem_append_right _ h))) (by decide +kernel))) (goodIn_sub (fun _ h => List.mem_cons_of_mem _ (List.mem_append_right _ h)) (by decide +kernel))
set_option maxRecDepth 20000 in
theorem gL_put_X6_put : GoodIn wsL_put (wsV RL 17 RX6 yX6_put wsX6_put) := goodIn_app (goodIn_of _ (by decide +kernel)) ggL_put_X6_put
theorem dL_put_0 : decode cL_put 0 = .ok (.aload 4, 2) := by decide +kernel
theorem dL_put_2 : decode cL_put 2 = .ok (.iconst 0, 1) := by decide +kernel
theorem dL_put_3 : decode cL_put 3 = .ok (.aload_n 0, 1) := by decide +kernel
theorem dL_put_4 : decode cL_put 4 = .ok (.iload_n 1, 1) := by decide +kernel
theorem dL_put_5 : decode cL_put 5 = .ok (.iload_n 2, 1) := by decide +kernel
theorem dL_put_6 : decode cL_put 6 = .ok (.iload_n 3, 1) := by decide +kernel
theorem dL_put_7 : decode cL_put 7 = .ok (.invokevirtual 17, 3) := by decide +kernel
theorem dL_put_10 : decode cL_put 10 = .ok (.i2l, 1) := by decide +kernel
theorem dL_put_11 : decode cL_put 11 = .ok (.lastore, 1) := by decide +kernel
theorem dL_put_12 : decode cL_put 12 = .ok (.goto 7, 3) := by decide +kernel
theorem dL_put_15 : decode cL_put 15 = .ok (.astore 5, 2) := by decide +kernel
theorem dL_put_17 : decode cL_put 17 = .ok (.iconst 1, 1) := by decide +kernel
theorem dL_put_18 : decode cL_put 18 = .ok (.ireturn, 1) := by decide +kernel
theorem dL_put_19 : decode cL_put 19 = .ok (.iconst 0, 1) := by decide +kernel
theorem dL_put_20 : decode cL_put 20 = .ok (.ireturn, 1) := by decide +kernel
set_option maxRecDepth 20000 in
theorem ggL_fill_X6_fill : GoodIn wsL_fill wsX6_fill := goodIn_ca (goodIn_ca (goodIn_r _ [6, 7, 8, 9, 10, 5, 11, 12, 13, 14, 15, 16, 17, 18, 19, 20, 21, 22, 23, 24, 25, 26, 27, 28] (by decide +kernel) (by decide +kernel)) (goodIn_sub (fun _ h => List.mem_cons_of_mem _ (List.mem_append_left _ (List.mem_append_right _ h))) (by decide +kernel))) (goodIn_sub (fun _ h => List.mem_cons_of_mem _ (List.mem_append_right _ h)) (by decide +kernel))
set_option maxRecDepth 20000 in
theorem gL_fill_X6_fill : GoodIn wsL_fill (wsV RL 21 RX6 yX6_fill wsX6_fill) := goodIn_app (goodIn_of _ (by decide +kernel)) ggL_fill_X6_fill
theorem dL_fill_0 : decode cL_fill 0 = .ok (.aload 6, 2) := by decide +kernel
theorem dL_fill_2 : decode cL_fill 2 = .ok (.iconst 0, 1) := by decide +kernel
theorem dL_fill_3 : decode cL_fill 3 = .ok (.aload_n 0, 1) := by decide +kernel
theorem dL_fill_4 : decode cL_fill 4 = .ok (.iload_n 1, 1) := by decide +kernel
theorem dL_fill_5 : decode cL_fill 5 = .ok (.iload_n 2, 1) := by decide +kernel
theorem dL_fill_6 : decode cL_fill 6 = .ok (.iload_n 3, 1) := by decide +kernel
theorem dL_fill_7 : decode cL_fill 7 = .ok (.iload 4, 2) := by decide +kernel
theorem dL_fill_9 : decode cL_fill 9 = .ok (.iload 5, 2) := by decide +kernel
theorem dL_fill_11 : decode cL_fill 11 = .ok (.invokevirtual 21, 3) := by decide +kernel
theorem dL_fill_14 : decode cL_fill 14 = .ok (.i2l, 1) := by decide +kernel
theorem dL_fill_15 : decode cL_fill 15 = .ok (.lastore, 1) := by decide +kernel
theorem dL_fill_16 : decode cL_fill 16 = .ok (.goto 7, 3) := by decide +kernel
theorem dL_fill_19 : decode cL_fill 19 = .ok (.astore 7, 2) := by decide +kernel
theorem dL_fill_21 : decode cL_fill 21 = .ok (.iconst 1, 1) := by decide +kernel
theorem dL_fill_22 : decode cL_fill 22 = .ok (.ireturn, 1) := by decide +kernel
theorem dL_fill_23 : decode cL_fill 23 = .ok (.iconst 0, 1) := by decide +kernel
theorem dL_fill_24 : decode cL_fill 24 = .ok (.ireturn, 1) := by decide +kernel
set_option maxRecDepth 20000 in
theorem ggL_get_X6_get : GoodIn wsL_get wsX6_get := goodIn_ca (goodIn_ca (goodIn_r _ [6, 7, 8, 9, 10, 5, 11, 12, 13, 14, 15, 16, 17, 18, 19, 20, 21, 22, 23, 24, 25] (by decide +kernel) (by decide +kernel)) (goodIn_sub (fun _ h => List.mem_cons_of_mem _ (List.mem_append_left _ (List.mem_append_right _ h))) (by decide +kernel))) (goodIn_sub (fun _ h => List.mem_cons_of_mem _ (List.mem_append_right _ h)) (by decide +kernel))
set_option maxRecDepth 20000 in
theorem gL_get_X6_get : GoodIn wsL_get (wsV RL 25 RX6 yX6_get wsX6_get) := goodIn_app (goodIn_of _ (by decide +kernel)) ggL_get_X6_get
theorem dL_get_0 : decode cL_get 0 = .ok (.aload_n 3, 1) := by decide +kernel
theorem dL_get_1 : decode cL_get 1 = .ok (.iconst 0, 1) := by decide +kernel
theorem dL_get_2 : decode cL_get 2 = .ok (.aload_n 0, 1) := by decide +kernel
theorem dL_get_3 : decode cL_get 3 = .ok (.iload_n 1, 1) := by decide +kernel
theorem dL_get_4 : decode cL_get 4 = .ok (.iload_n 2, 1) := by decide +kernel
theorem dL_get_5 : decode cL_get 5 = .ok (.invokevirtual 25, 3) := by decide +kernel
theorem dL_get_8 : decode cL_get 8 = .ok (.i2l, 1) := by decide +kernel
theorem dL_get_9 : decode cL_get 9 = .ok (.lastore, 1) := by decide +kernel
theorem dL_get_10 : decode cL_get 10 = .ok (.goto 7, 3) := by decide +kernel
theorem dL_get_13 : decode cL_get 13 = .ok (.astore 4, 2) := by decide +kernel
theorem dL_get_15 : decode cL_get 15 = .ok (.iconst 1, 1) := by decide +kernel
theorem dL_get_16 : decode cL_get 16 = .ok (.ireturn, 1) := by decide +kernel
theorem dL_get_17 : decode cL_get 17 = .ok (.iconst 0, 1) := by decide +kernel
theorem dL_get_18 : decode cL_get 18 = .ok (.ireturn, 1) := by decide +kernel
set_option maxRecDepth 20000 in
theorem ggL_length_X6_length : GoodIn wsL_length wsX6_length := goodIn_ca (goodIn_r _ [6, 7, 8, 9, 10, 5, 11, 12, 13, 14, 15, 16, 17, 18, 19, 20, 21, 22] (by decide +kernel) (by decide +kernel)) (goodIn_sub (fun _ h => List.mem_cons_of_mem _ (List.mem_append_right _ h)) (by decide +kernel))
set_option maxRecDepth 20000 in
theorem gL_length_X6_length : GoodIn wsL_length (wsV RL 29 RX6 yX6_length wsX6_length) := goodIn_app (goodIn_of _ (by decide +kernel)) ggL_length_X6_length
theorem dL_length_0 : decode cL_length 0 = .ok (.aload_n 2, 1) := by decide +kernel
theorem dL_length_1 : decode cL_length 1 = .ok (.iconst 0, 1) := by decide +kernel
theorem dL_length_2 : decode cL_length 2 = .ok (.aload_n 0, 1) := by decide +kernel
theorem dL_length_3 : decode cL_length 3 = .ok (.iload_n 1, 1) := by decide +kernel
theorem dL_length_4 : decode cL_length 4 = .ok (.invokevirtual 29, 3) := by decide +kernel
theorem dL_length_7 : decode cL_length 7 = .ok (.i2l, 1) := by decide +kernel
theorem dL_length_8 : decode cL_length 8 = .ok (.lastore, 1) := by decide +kernel
theorem dL_length_9 : decode cL_length 9 = .ok (.goto 6, 3) := by decide +kernel
theorem dL_length_12 : decode cL_length 12 = .ok (.astore_n 3, 1) := by decide +kernel
theorem dL_length_13 : decode cL_length 13 = .ok (.iconst 1, 1) := by decide +kernel
theorem dL_length_14 : decode cL_length 14 = .ok (.ireturn, 1) := by decide +kernel
theorem dL_length_15 : decode cL_length 15 = .ok (.iconst 0, 1) := by decide +kernel
theorem dL_length_16 : decode cL_length 16 = .ok (.ireturn, 1) := by decide +kernel
set_option maxRecDepth 20000 in
theorem ggL_makeBytes_X6_makeBytes : GoodIn wsL_makeBytes wsX6_makeBytes := goodIn_ca (goodIn_ca (goodIn_ca (goodIn_r _ [7, 8, 9, 10, 11, 12, 13, 14, 15, 16, 17, 6, 18, 19, 20, 21, 22, 23, 24, 25, 26, 27, 28, 29, 30, 31, 32, 33, 34, 35, 36] (by decide +kernel) (by decide +kernel)) (goodIn_sub (fun _ h => List.mem_cons_of_mem _ (List.mem_append_left _ (List.mem_append_right _ h))) (by decide +kernel))) (goodIn_sub (fun _ h => List.mem_cons_of_mem _ (List.mem_append_left _ (List.mem_append_left _ (List.mem_append_right _ h)))) (by decide +kernel))) (goodIn_sub (fun _ h => List.mem_cons_of_mem _ (List.mem_append_right _ h)) (by decide +kernel))
set_option maxRecDepth 20000 in
theorem gL_makeBytes_X6_makeBytes : GoodIn wsL_makeBytes (wsV RL 33 RX6 yX6_makeBytes wsX6_makeBytes) := goodIn_app (goodIn_of _ (by decide +kernel)) ggL_makeBytes_X6_makeBytes
theorem dL_makeBytes_0 : decode cL_makeBytes 0 = .ok (.aload 5, 2) := by decide +kernel
theorem dL_makeBytes_2 : decode cL_makeBytes 2 = .ok (.iconst 0, 1) := by decide +kernel
theorem dL_makeBytes_3 : decode cL_makeBytes 3 = .ok (.aload_n 0, 1) := by decide +kernel
theorem dL_makeBytes_4 : decode cL_makeBytes 4 = .ok (.iload_n 1, 1) := by decide +kernel
theorem dL_makeBytes_5 : decode cL_makeBytes 5 = .ok (.iload_n 2, 1) := by decide +kernel
theorem dL_makeBytes_6 : decode cL_makeBytes 6 = .ok (.iload_n 3, 1) := by decide +kernel
theorem dL_makeBytes_7 : decode cL_makeBytes 7 = .ok (.iload 4, 2) := by decide +kernel
theorem dL_makeBytes_9 : decode cL_makeBytes 9 = .ok (.invokevirtual 33, 3) := by decide +kernel
theorem dL_makeBytes_12 : decode cL_makeBytes 12 = .ok (.i2l, 1) := by decide +kernel
theorem dL_makeBytes_13 : decode cL_makeBytes 13 = .ok (.lastore, 1) := by decide +kernel
theorem dL_makeBytes_14 : decode cL_makeBytes 14 = .ok (.goto 11, 3) := by decide +kernel
theorem dL_makeBytes_17 : decode cL_makeBytes 17 = .ok (.astore 6, 2) := by decide +kernel
theorem dL_makeBytes_19 : decode cL_makeBytes 19 = .ok (.iconst 1, 1) := by decide +kernel
theorem dL_makeBytes_20 : decode cL_makeBytes 20 = .ok (.ireturn, 1) := by decide +kernel
theorem dL_makeBytes_21 : decode cL_makeBytes 21 = .ok (.astore 6, 2) := by decide +kernel
theorem dL_makeBytes_23 : decode cL_makeBytes 23 = .ok (.iconst 2, 1) := by decide +kernel
theorem dL_makeBytes_24 : decode cL_makeBytes 24 = .ok (.ireturn, 1) := by decide +kernel
theorem dL_makeBytes_25 : decode cL_makeBytes 25 = .ok (.iconst 0, 1) := by decide +kernel
theorem dL_makeBytes_26 : decode cL_makeBytes 26 = .ok (.ireturn, 1) := by decide +kernel
set_option maxRecDepth 20000 in
theorem ggL_putByte_X6_putByte : GoodIn wsL_putByte wsX6_putByte := goodIn_ca (goodIn_ca (goodIn_r _ [6, 7, 8, 9, 10, 5, 11, 12, 13, 14, 15, 16, 17, 18, 19, 20, 21, 22, 23, 24, 25] (by decide +kernel) (by decide +kernel)) (goodIn_sub (fun _ h => List.mem_cons_of_mem _ (List.mem_append_left _ (List.mem_append_right _ h))) (by decide +kernel))) (goodIn_sub (fun _ h => List.mem_cons_of_mem _ (List.mem_append_right _ h)) (by decide +kernel))
set_option maxRecDepth 20000 in
theorem gL_putByte_X6_putByte : GoodIn wsL_putByte (wsV RL 37 RX6 yX6_putByte wsX6_putByte) := goodIn_app (goodIn_of _ (by decide +kernel)) ggL_putByte_X6_putByte
theorem dL_putByte_0 : decode cL_putByte 0 = .ok (.aload 4, 2) := by decide +kernel
theorem dL_putByte_2 : decode cL_putByte 2 = .ok (.iconst 0, 1) := by decide +kernel
theorem dL_putByte_3 : decode cL_putByte 3 = .ok (.aload_n 0, 1) := by decide +kernel
theorem dL_putByte_4 : decode cL_putByte 4 = .ok (.iload_n 1, 1) := by decide +kernel
theorem dL_putByte_5 : decode cL_putByte 5 = .ok (.iload_n 2, 1) := by decide +kernel
theorem dL_putByte_6 : decode cL_putByte 6 = .ok (.iload_n 3, 1) := by decide +kernel
theorem dL_putByte_7 : decode cL_putByte 7 = .ok (.invokevirtual 37, 3) := by decide +kernel
theorem dL_putByte_10 : decode cL_putByte 10 = .ok (.i2l, 1) := by decide +kernel
theorem dL_putByte_11 : decode cL_putByte 11 = .ok (.lastore, 1) := by decide +kernel
theorem dL_putByte_12 : decode cL_putByte 12 = .ok (.goto 7, 3) := by decide +kernel
theorem dL_putByte_15 : decode cL_putByte 15 = .ok (.astore 5, 2) := by decide +kernel
theorem dL_putByte_17 : decode cL_putByte 17 = .ok (.iconst 1, 1) := by decide +kernel
theorem dL_putByte_18 : decode cL_putByte 18 = .ok (.ireturn, 1) := by decide +kernel
theorem dL_putByte_19 : decode cL_putByte 19 = .ok (.iconst 0, 1) := by decide +kernel
theorem dL_putByte_20 : decode cL_putByte 20 = .ok (.ireturn, 1) := by decide +kernel
set_option maxRecDepth 20000 in
theorem ggL_getByte_X6_getByte : GoodIn wsL_getByte wsX6_getByte := goodIn_ca (goodIn_ca (goodIn_r _ [6, 7, 8, 9, 10, 5, 11, 12, 13, 14, 15, 16, 17, 18, 19, 20, 21, 22, 23, 24, 25] (by decide +kernel) (by decide +kernel)) (goodIn_sub (fun _ h => List.mem_cons_of_mem _ (List.mem_append_left _ (List.mem_append_right _ h))) (by decide +kernel))) (goodIn_sub (fun _ h => List.mem_cons_of_mem _ (List.mem_append_right _ h)) (by decide +kernel))
set_option maxRecDepth 20000 in
theorem gL_getByte_X6_getByte : GoodIn wsL_getByte (wsV RL 41 RX6 yX6_getByte wsX6_getByte) := goodIn_app (goodIn_of _ (by decide +kernel)) ggL_getByte_X6_getByte
theorem dL_getByte_0 : decode cL_getByte 0 = .ok (.aload_n 3, 1) := by decide +kernel
theorem dL_getByte_1 : decode cL_getByte 1 = .ok (.iconst 0, 1) := by decide +kernel
theorem dL_getByte_2 : decode cL_getByte 2 = .ok (.aload_n 0, 1) := by decide +kernel
theorem dL_getByte_3 : decode cL_getByte 3 = .ok (.iload_n 1, 1) := by decide +kernel
theorem dL_getByte_4 : decode cL_getByte 4 = .ok (.iload_n 2, 1) := by decide +kernel
theorem dL_getByte_5 : decode cL_getByte 5 = .ok (.invokevirtual 41, 3) := by decide +kernel
theorem dL_getByte_8 : decode cL_getByte 8 = .ok (.i2l, 1) := by decide +kernel
theorem dL_getByte_9 : decode cL_getByte 9 = .ok (.lastore, 1) := by decide +kernel
theorem dL_getByte_10 : decode cL_getByte 10 = .ok (.goto 7, 3) := by decide +kernel
theorem dL_getByte_13 : decode cL_getByte 13 = .ok (.astore 4, 2) := by decide +kernel
theorem dL_getByte_15 : decode cL_getByte 15 = .ok (.iconst 1, 1) := by decide +kernel
theorem dL_getByte_16 : decode cL_getByte 16 = .ok (.ireturn, 1) := by decide +kernel
theorem dL_getByte_17 : decode cL_getByte 17 = .ok (.iconst 0, 1) := by decide +kernel
theorem dL_getByte_18 : decode cL_getByte 18 = .ok (.ireturn, 1) := by decide +kernel
set_option maxRecDepth 20000 in
theorem ggL_begin_X6_begin : GoodIn wsL_begin wsX6_begin := goodIn_ca (goodIn_r _ [6, 7, 8, 9, 5, 10, 11, 12, 13, 14, 15, 16, 17, 18, 19, 20, 21, 22, 23, 24, 25, 26, 27, 28] (by decide +kernel) (by decide +kernel)) (goodIn_sub (fun _ h => List.mem_cons_of_mem _ (List.mem_append_right _ h)) (by decide +kernel))
set_option maxRecDepth 20000 in
theorem gL_begin_X6_begin : GoodIn wsL_begin (wsV RL 44 RX6 yX6_begin wsX6_begin) := goodIn_app (goodIn_of _ (by decide +kernel)) ggL_begin_X6_begin
theorem dL_begin_0 : decode cL_begin 0 = .ok (.aload_n 2, 1) := by decide +kernel
theorem dL_begin_1 : decode cL_begin 1 = .ok (.iconst 0, 1) := by decide +kernel
theorem dL_begin_2 : decode cL_begin 2 = .ok (.aload_n 0, 1) := by decide +kernel
theorem dL_begin_3 : decode cL_begin 3 = .ok (.iload_n 1, 1) := by decide +kernel
theorem dL_begin_4 : decode cL_begin 4 = .ok (.invokevirtual 44, 3) := by decide +kernel
theorem dL_begin_7 : decode cL_begin 7 = .ok (.i2l, 1) := by decide +kernel
theorem dL_begin_8 : decode cL_begin 8 = .ok (.lastore, 1) := by decide +kernel
theorem dL_begin_9 : decode cL_begin 9 = .ok (.goto 6, 3) := by decide +kernel
theorem dL_begin_12 : decode cL_begin 12 = .ok (.astore_n 3, 1) := by decide +kernel
theorem dL_begin_13 : decode cL_begin 13 = .ok (.iconst 1, 1) := by decide +kernel
theorem dL_begin_14 : decode cL_begin 14 = .ok (.ireturn, 1) := by decide +kernel
theorem dL_begin_15 : decode cL_begin 15 = .ok (.iconst 0, 1) := by decide +kernel
theorem dL_begin_16 : decode cL_begin 16 = .ok (.ireturn, 1) := by decide +kernel
set_option maxRecDepth 20000 in
theorem ggL_write_X6_write : GoodIn wsL_write wsX6_write := goodIn_ca (goodIn_ca (goodIn_ca (goodIn_r _ [7, 8, 9, 10, 6, 11, 12, 13, 14, 15, 16, 17, 18, 19, 20, 21, 22, 23, 24, 25, 26, 27, 28, 29, 30, 31, 32, 33, 34, 35, 36, 37, 38, 39, 40, 41, 42] (by decide +kernel) (by decide +kernel)) (goodIn_sub (fun _ h => List.mem_cons_of_mem _ (List.mem_append_left _ (List.mem_append_right _ h))) (by decide +kernel))) (goodIn_sub (fun _ h => List.mem_cons_of_mem _ (List.mem_append_right _ h)) (by decide +kernel))) (goodIn_sub (fun _ h => List.mem_cons_of_mem _ (List.mem_append_left _ (List.mem_append_left _ (List.mem_append_right _ h)))) (by decide +kernel))
set_option maxRecDepth 20000 in
theorem gL_write_X6_write : GoodIn wsL_write (wsV RL 47 RX6 yX6_write wsX6_write) := goodIn_app (goodIn_of _ (by decide +kernel)) ggL_write_X6_write
theorem dL_write_0 : decode cL_write 0 = .ok (.aload_n 3, 1) := by decide +kernel
theorem dL_write_1 : decode cL_write 1 = .ok (.iconst 0, 1) := by decide +kernel
theorem dL_write_2 : decode cL_write 2 = .ok (.aload_n 0, 1) := by decide +kernel
theorem dL_write_3 : decode cL_write 3 = .ok (.iload_n 1, 1) := by decide +kernel
theorem dL_write_4 : decode cL_write 4 = .ok (.iload_n 2, 1) := by decide +kernel
theorem dL_write_5 : decode cL_write 5 = .ok (.invokevirtual 47, 3) := by decide +kernel
theorem dL_write_8 : decode cL_write 8 = .ok (.i2l, 1) := by decide +kernel
theorem dL_write_9 : decode cL_write 9 = .ok (.lastore, 1) := by decide +kernel
theorem dL_write_10 : decode cL_write 10 = .ok (.goto 11, 3) := by decide +kernel
theorem dL_write_13 : decode cL_write 13 = .ok (.astore 4, 2) := by decide +kernel
theorem dL_write_15 : decode cL_write 15 = .ok (.iconst 1, 1) := by decide +kernel
theorem dL_write_16 : decode cL_write 16 = .ok (.ireturn, 1) := by decide +kernel
theorem dL_write_17 : decode cL_write 17 = .ok (.astore 4, 2) := by decide +kernel
theorem dL_write_19 : decode cL_write 19 = .ok (.iconst 2, 1) := by decide +kernel
theorem dL_write_20 : decode cL_write 20 = .ok (.ireturn, 1) := by decide +kernel
theorem dL_write_21 : decode cL_write 21 = .ok (.iconst 0, 1) := by decide +kernel
theorem dL_write_22 : decode cL_write 22 = .ok (.ireturn, 1) := by decide +kernel
set_option maxRecDepth 20000 in
theorem ggL_writeText_X6_writeText : GoodIn wsL_writeText wsX6_writeText := goodIn_ca (goodIn_ca (goodIn_ca (goodIn_r _ [7, 8, 9, 10, 6, 11, 12, 13, 14, 15, 16, 17, 18, 19, 20, 21, 22, 23, 24, 25, 26, 27, 28, 29, 30, 31, 32, 33, 34, 35, 36, 37, 38, 39, 40, 41, 42, 43, 44, 45, 46, 47, 48, 49, 50] (by decide +kernel) (by decide +kernel)) (goodIn_sub (fun _ h => List.mem_cons_of_mem _ (List.mem_append_left _ (List.mem_append_right _ h))) (by decide +kernel))) (goodIn_sub (fun _ h => List.mem_cons_of_mem _ (List.mem_append_right _ h)) (by decide +kernel))) (goodIn_sub (fun _ h => List.mem_cons_of_mem _ (List.mem_append_left _ (List.mem_append_left _ (List.mem_append_right _ h)))) (by decide +kernel))
set_option maxRecDepth 20000 in
theorem gL_writeText_X6_writeText : GoodIn wsL_writeText (wsV RL 52 RX6 yX6_writeText wsX6_writeText) := goodIn_app (goodIn_of _ (by decide +kernel)) ggL_writeText_X6_writeText
theorem dL_writeText_0 : decode cL_writeText 0 = .ok (.aload 5, 2) := by decide +kernel
theorem dL_writeText_2 : decode cL_writeText 2 = .ok (.iconst 0, 1) := by decide +kernel
theorem dL_writeText_3 : decode cL_writeText 3 = .ok (.aload_n 0, 1) := by decide +kernel
theorem dL_writeText_4 : decode cL_writeText 4 = .ok (.iload_n 1, 1) := by decide +kernel
theorem dL_writeText_5 : decode cL_writeText 5 = .ok (.iload_n 2, 1) := by decide +kernel
theorem dL_writeText_6 : decode cL_writeText 6 = .ok (.iload_n 3, 1) := by decide +kernel
theorem dL_writeText_7 : decode cL_writeText 7 = .ok (.iload 4, 2) := by decide +kernel
theorem dL_writeText_9 : decode cL_writeText 9 = .ok (.invokevirtual 52, 3) := by decide +kernel
theorem dL_writeText_12 : decode cL_writeText 12 = .ok (.i2l, 1) := by decide +kernel
theorem dL_writeText_13 : decode cL_writeText 13 = .ok (.lastore, 1) := by decide +kernel
theorem dL_writeText_14 : decode cL_writeText 14 = .ok (.goto 11, 3) := by decide +kernel
theorem dL_writeText_17 : decode cL_writeText 17 = .ok (.astore 6, 2) := by decide +kernel
theorem dL_writeText_19 : decode cL_writeText 19 = .ok (.iconst 1, 1) := by decide +kernel
theorem dL_writeText_20 : decode cL_writeText 20 = .ok (.ireturn, 1) := by decide +kernel
theorem dL_writeText_21 : decode cL_writeText 21 = .ok (.astore 6, 2) := by decide +kernel
theorem dL_writeText_23 : decode cL_writeText 23 = .ok (.iconst 2, 1) := by decide +kernel
theorem dL_writeText_24 : decode cL_writeText 24 = .ok (.ireturn, 1) := by decide +kernel
theorem dL_writeText_25 : decode cL_writeText 25 = .ok (.iconst 0, 1) := by decide +kernel
theorem dL_writeText_26 : decode cL_writeText 26 = .ok (.ireturn, 1) := by decide +kernel
set_option maxRecDepth 20000 in
theorem ggL_writeSigns_X6_writeSigns : GoodIn wsL_writeSigns wsX6_writeSigns := goodIn_ca (goodIn_ca (goodIn_ca (goodIn_r _ [7, 8, 9, 10, 6, 11, 12, 13, 14, 15, 16, 17, 18, 19, 20, 21, 22, 23, 24, 25, 26, 27, 28, 29, 30, 31, 32, 33, 34, 35, 36, 37, 38, 39, 40, 41, 42, 43, 44, 45, 46, 47, 48, 49, 50] (by decide +kernel) (by decide +kernel)) (goodIn_sub (fun _ h => List.mem_cons_of_mem _ (List.mem_append_left _ (List.mem_append_right _ h))) (by decide +kernel))) (goodIn_sub (fun _ h => List.mem_cons_of_mem _ (List.mem_append_right _ h)) (by decide +kernel))) (goodIn_sub (fun _ h => List.mem_cons_of_mem _ (List.mem_append_left _ (List.mem_append_left _ (List.mem_append_right _ h)))) (by decide +kernel))
set_option maxRecDepth 20000 in
theorem gL_writeSigns_X6_writeSigns : GoodIn wsL_writeSigns (wsV RL 55 RX6 yX6_writeSigns wsX6_writeSigns) := goodIn_app (goodIn_of _ (by decide +kernel)) ggL_writeSigns_X6_writeSigns
theorem dL_writeSigns_0 : decode cL_writeSigns 0 = .ok (.aload 5, 2) := by decide +kernel
theorem dL_writeSigns_2 : decode cL_writeSigns 2 = .ok (.iconst 0, 1) := by decide +kernel
theorem dL_writeSigns_3 : decode cL_writeSigns 3 = .ok (.aload_n 0, 1) := by decide +kernel
theorem dL_writeSigns_4 : decode cL_writeSigns 4 = .ok (.iload_n 1, 1) := by decide +kernel
theorem dL_writeSigns_5 : decode cL_writeSigns 5 = .ok (.iload_n 2, 1) := by decide +kernel
theorem dL_writeSigns_6 : decode cL_writeSigns 6 = .ok (.iload_n 3, 1) := by decide +kernel
theorem dL_writeSigns_7 : decode cL_writeSigns 7 = .ok (.iload 4, 2) := by decide +kernel
theorem dL_writeSigns_9 : decode cL_writeSigns 9 = .ok (.invokevirtual 55, 3) := by decide +kernel
theorem dL_writeSigns_12 : decode cL_writeSigns 12 = .ok (.i2l, 1) := by decide +kernel
theorem dL_writeSigns_13 : decode cL_writeSigns 13 = .ok (.lastore, 1) := by decide +kernel
theorem dL_writeSigns_14 : decode cL_writeSigns 14 = .ok (.goto 11, 3) := by decide +kernel
theorem dL_writeSigns_17 : decode cL_writeSigns 17 = .ok (.astore 6, 2) := by decide +kernel
theorem dL_writeSigns_19 : decode cL_writeSigns 19 = .ok (.iconst 1, 1) := by decide +kernel
theorem dL_writeSigns_20 : decode cL_writeSigns 20 = .ok (.ireturn, 1) := by decide +kernel
theorem dL_writeSigns_21 : decode cL_writeSigns 21 = .ok (.astore 6, 2) := by decide +kernel
theorem dL_writeSigns_23 : decode cL_writeSigns 23 = .ok (.iconst 2, 1) := by decide +kernel
theorem dL_writeSigns_24 : decode cL_writeSigns 24 = .ok (.ireturn, 1) := by decide +kernel
theorem dL_writeSigns_25 : decode cL_writeSigns 25 = .ok (.iconst 0, 1) := by decide +kernel
theorem dL_writeSigns_26 : decode cL_writeSigns 26 = .ok (.ireturn, 1) := by decide +kernel
set_option maxRecDepth 20000 in
theorem ggL_append_X6_append : GoodIn wsL_append wsX6_append := goodIn_ca (goodIn_ca (goodIn_ca (goodIn_r _ [7, 8, 9, 10, 6, 11, 12, 13, 14, 15, 16, 17, 18, 19, 20, 21, 22, 23, 24, 25, 26, 27, 28, 29, 30, 31, 32, 33, 34, 35, 36, 37, 38, 39, 40, 41, 42] (by decide +kernel) (by decide +kernel)) (goodIn_sub (fun _ h => List.mem_cons_of_mem _ (List.mem_append_left _ (List.mem_append_right _ h))) (by decide +kernel))) (goodIn_sub (fun _ h => List.mem_cons_of_mem _ (List.mem_append_right _ h)) (by decide +kernel))) (goodIn_sub (fun _ h => List.mem_cons_of_mem _ (List.mem_append_left _ (List.mem_append_left _ (List.mem_append_right _ h)))) (by decide +kernel))
set_option maxRecDepth 20000 in
theorem gL_append_X6_append : GoodIn wsL_append (wsV RL 58 RX6 yX6_append wsX6_append) := goodIn_app (goodIn_of _ (by decide +kernel)) ggL_append_X6_append
theorem dL_append_0 : decode cL_append 0 = .ok (.aload_n 3, 1) := by decide +kernel
theorem dL_append_1 : decode cL_append 1 = .ok (.iconst 0, 1) := by decide +kernel
theorem dL_append_2 : decode cL_append 2 = .ok (.aload_n 0, 1) := by decide +kernel
theorem dL_append_3 : decode cL_append 3 = .ok (.iload_n 1, 1) := by decide +kernel
theorem dL_append_4 : decode cL_append 4 = .ok (.iload_n 2, 1) := by decide +kernel
theorem dL_append_5 : decode cL_append 5 = .ok (.invokevirtual 58, 3) := by decide +kernel
theorem dL_append_8 : decode cL_append 8 = .ok (.i2l, 1) := by decide +kernel
theorem dL_append_9 : decode cL_append 9 = .ok (.lastore, 1) := by decide +kernel
theorem dL_append_10 : decode cL_append 10 = .ok (.goto 11, 3) := by decide +kernel
theorem dL_append_13 : decode cL_append 13 = .ok (.astore 4, 2) := by decide +kernel
theorem dL_append_15 : decode cL_append 15 = .ok (.iconst 1, 1) := by decide +kernel
theorem dL_append_16 : decode cL_append 16 = .ok (.ireturn, 1) := by decide +kernel
theorem dL_append_17 : decode cL_append 17 = .ok (.astore 4, 2) := by decide +kernel
theorem dL_append_19 : decode cL_append 19 = .ok (.iconst 2, 1) := by decide +kernel
theorem dL_append_20 : decode cL_append 20 = .ok (.ireturn, 1) := by decide +kernel
theorem dL_append_21 : decode cL_append 21 = .ok (.iconst 0, 1) := by decide +kernel
theorem dL_append_22 : decode cL_append 22 = .ok (.ireturn, 1) := by decide +kernel
set_option maxRecDepth 20000 in
theorem ggL_size_X6_size : GoodIn wsL_size wsX6_size := goodIn_ca (goodIn_r _ [6, 7, 8, 9, 10, 5, 11, 12, 13, 14, 15, 16, 17, 18, 19, 20, 21, 22, 23] (by decide +kernel) (by decide +kernel)) (goodIn_sub (fun _ h => List.mem_cons_of_mem _ (List.mem_append_right _ h)) (by decide +kernel))
set_option maxRecDepth 20000 in
theorem gL_size_X6_size : GoodIn wsL_size (wsV RL 62 RX6 yX6_size wsX6_size) := goodIn_app (goodIn_of _ (by decide +kernel)) ggL_size_X6_size
theorem dL_size_0 : decode cL_size 0 = .ok (.aload_n 2, 1) := by decide +kernel
theorem dL_size_1 : decode cL_size 1 = .ok (.iconst 0, 1) := by decide +kernel
theorem dL_size_2 : decode cL_size 2 = .ok (.aload_n 0, 1) := by decide +kernel
theorem dL_size_3 : decode cL_size 3 = .ok (.iload_n 1, 1) := by decide +kernel
theorem dL_size_4 : decode cL_size 4 = .ok (.invokevirtual 62, 3) := by decide +kernel
theorem dL_size_7 : decode cL_size 7 = .ok (.i2l, 1) := by decide +kernel
theorem dL_size_8 : decode cL_size 8 = .ok (.lastore, 1) := by decide +kernel
theorem dL_size_9 : decode cL_size 9 = .ok (.goto 6, 3) := by decide +kernel
theorem dL_size_12 : decode cL_size 12 = .ok (.astore_n 3, 1) := by decide +kernel
theorem dL_size_13 : decode cL_size 13 = .ok (.iconst 1, 1) := by decide +kernel
theorem dL_size_14 : decode cL_size 14 = .ok (.ireturn, 1) := by decide +kernel
theorem dL_size_15 : decode cL_size 15 = .ok (.iconst 0, 1) := by decide +kernel
theorem dL_size_16 : decode cL_size 16 = .ok (.ireturn, 1) := by decide +kernel
set_option maxRecDepth 20000 in
theorem ggL_take_X6_take : GoodIn wsL_take wsX6_take := goodIn_ca (goodIn_ca (goodIn_r _ [6, 7, 8, 9, 5, 10, 11, 12, 13, 14, 15, 16, 17, 18, 19, 20, 21, 22, 23, 24, 25, 26, 27, 28, 29, 30, 31, 32, 33, 34, 35, 36, 37, 38, 39, 40, 41, 42, 43, 44, 45, 46, 47, 48, 49, 50, 51, 52] (by decide +kernel) (by decide +kernel)) (goodIn_sub (fun _ h => List.mem_cons_of_mem _ (List.mem_append_right _ h)) (by decide +kernel))) (goodIn_sub (fun _ h => List.mem_cons_of_mem _ (List.mem_append_left _ (List.mem_append_right _ h))) (by decide +kernel))
set_option maxRecDepth 20000 in
theorem gL_take_X6_take : GoodIn wsL_take (wsV RL 65 RX6 yX6_take wsX6_take) := goodIn_app (goodIn_of _ (by decide +kernel)) ggL_take_X6_take
theorem dL_take_0 : decode cL_take 0 = .ok (.aload_n 3, 1) := by decide +kernel
theorem dL_take_1 : decode cL_take 1 = .ok (.iconst 0, 1) := by decide +kernel
theorem dL_take_2 : decode cL_take 2 = .ok (.aload_n 0, 1) := by decide +kernel
theorem dL_take_3 : decode cL_take 3 = .ok (.iload_n 1, 1) := by decide +kernel
theorem dL_take_4 : decode cL_take 4 = .ok (.iload_n 2, 1) := by decide +kernel
theorem dL_take_5 : decode cL_take 5 = .ok (.invokevirtual 65, 3) := by decide +kernel
theorem dL_take_8 : decode cL_take 8 = .ok (.i2l, 1) := by decide +kernel
theorem dL_take_9 : decode cL_take 9 = .ok (.lastore, 1) := by decide +kernel
theorem dL_take_10 : decode cL_take 10 = .ok (.goto 7, 3) := by decide +kernel
theorem dL_take_13 : decode cL_take 13 = .ok (.astore 4, 2) := by decide +kernel
theorem dL_take_15 : decode cL_take 15 = .ok (.iconst 1, 1) := by decide +kernel
theorem dL_take_16 : decode cL_take 16 = .ok (.ireturn, 1) := by decide +kernel
theorem dL_take_17 : decode cL_take 17 = .ok (.iconst 0, 1) := by decide +kernel
theorem dL_take_18 : decode cL_take 18 = .ok (.ireturn, 1) := by decide +kernel
set_option maxRecDepth 20000 in
theorem ggL_empty_X6_empty : GoodIn wsL_empty wsX6_empty := goodIn_ca (goodIn_r _ [6, 7, 8, 9, 5, 10, 11, 12, 13, 14, 15, 16, 17, 18, 19, 20, 21, 22, 23, 24, 25, 26, 27, 28] (by decide +kernel) (by decide +kernel)) (goodIn_sub (fun _ h => List.mem_cons_of_mem _ (List.mem_append_right _ h)) (by decide +kernel))
set_option maxRecDepth 20000 in
theorem gL_empty_X6_empty : GoodIn wsL_empty (wsV RL 68 RX6 yX6_empty wsX6_empty) := goodIn_app (goodIn_of _ (by decide +kernel)) ggL_empty_X6_empty
theorem dL_empty_0 : decode cL_empty 0 = .ok (.aload_n 2, 1) := by decide +kernel
theorem dL_empty_1 : decode cL_empty 1 = .ok (.iconst 0, 1) := by decide +kernel
theorem dL_empty_2 : decode cL_empty 2 = .ok (.aload_n 0, 1) := by decide +kernel
theorem dL_empty_3 : decode cL_empty 3 = .ok (.iload_n 1, 1) := by decide +kernel
theorem dL_empty_4 : decode cL_empty 4 = .ok (.invokevirtual 68, 3) := by decide +kernel
theorem dL_empty_7 : decode cL_empty 7 = .ok (.i2l, 1) := by decide +kernel
theorem dL_empty_8 : decode cL_empty 8 = .ok (.lastore, 1) := by decide +kernel
theorem dL_empty_9 : decode cL_empty 9 = .ok (.goto 6, 3) := by decide +kernel
theorem dL_empty_12 : decode cL_empty 12 = .ok (.astore_n 3, 1) := by decide +kernel
theorem dL_empty_13 : decode cL_empty 13 = .ok (.iconst 1, 1) := by decide +kernel
theorem dL_empty_14 : decode cL_empty 14 = .ok (.ireturn, 1) := by decide +kernel
theorem dL_empty_15 : decode cL_empty 15 = .ok (.iconst 0, 1) := by decide +kernel
theorem dL_empty_16 : decode cL_empty 16 = .ok (.ireturn, 1) := by decide +kernel
set_option maxRecDepth 20000 in
theorem ggL_arrayWrite_X6_arrayWrite : GoodIn wsL_arrayWrite wsX6_arrayWrite := goodIn_ca (goodIn_ca (goodIn_ca (goodIn_r _ [7, 8, 9, 10, 6, 11, 12, 13, 14, 15, 16, 17, 18, 19, 20, 21, 22, 23, 24, 25, 26, 27, 28, 29, 30, 31, 32, 33, 34, 35, 36, 37, 38, 39, 40, 41, 42] (by decide +kernel) (by decide +kernel)) (goodIn_sub (fun _ h => List.mem_cons_of_mem _ (List.mem_append_left _ (List.mem_append_right _ h))) (by decide +kernel))) (goodIn_sub (fun _ h => List.mem_cons_of_mem _ (List.mem_append_right _ h)) (by decide +kernel))) (goodIn_sub (fun _ h => List.mem_cons_of_mem _ (List.mem_append_left _ (List.mem_append_left _ (List.mem_append_right _ h)))) (by decide +kernel))
set_option maxRecDepth 20000 in
theorem gL_arrayWrite_X6_arrayWrite : GoodIn wsL_arrayWrite (wsV RL 71 RX6 yX6_arrayWrite wsX6_arrayWrite) := goodIn_app (goodIn_of _ (by decide +kernel)) ggL_arrayWrite_X6_arrayWrite
theorem dL_arrayWrite_0 : decode cL_arrayWrite 0 = .ok (.aload_n 3, 1) := by decide +kernel
theorem dL_arrayWrite_1 : decode cL_arrayWrite 1 = .ok (.iconst 0, 1) := by decide +kernel
theorem dL_arrayWrite_2 : decode cL_arrayWrite 2 = .ok (.aload_n 0, 1) := by decide +kernel
theorem dL_arrayWrite_3 : decode cL_arrayWrite 3 = .ok (.iload_n 1, 1) := by decide +kernel
theorem dL_arrayWrite_4 : decode cL_arrayWrite 4 = .ok (.iload_n 2, 1) := by decide +kernel
theorem dL_arrayWrite_5 : decode cL_arrayWrite 5 = .ok (.invokevirtual 71, 3) := by decide +kernel
theorem dL_arrayWrite_8 : decode cL_arrayWrite 8 = .ok (.i2l, 1) := by decide +kernel
theorem dL_arrayWrite_9 : decode cL_arrayWrite 9 = .ok (.lastore, 1) := by decide +kernel
theorem dL_arrayWrite_10 : decode cL_arrayWrite 10 = .ok (.goto 11, 3) := by decide +kernel
theorem dL_arrayWrite_13 : decode cL_arrayWrite 13 = .ok (.astore 4, 2) := by decide +kernel
theorem dL_arrayWrite_15 : decode cL_arrayWrite 15 = .ok (.iconst 1, 1) := by decide +kernel
theorem dL_arrayWrite_16 : decode cL_arrayWrite 16 = .ok (.ireturn, 1) := by decide +kernel
theorem dL_arrayWrite_17 : decode cL_arrayWrite 17 = .ok (.astore 4, 2) := by decide +kernel
theorem dL_arrayWrite_19 : decode cL_arrayWrite 19 = .ok (.iconst 2, 1) := by decide +kernel
theorem dL_arrayWrite_20 : decode cL_arrayWrite 20 = .ok (.ireturn, 1) := by decide +kernel
theorem dL_arrayWrite_21 : decode cL_arrayWrite 21 = .ok (.iconst 0, 1) := by decide +kernel
theorem dL_arrayWrite_22 : decode cL_arrayWrite 22 = .ok (.ireturn, 1) := by decide +kernel
set_option maxRecDepth 20000 in
theorem ggL_arrayText_X6_arrayText : GoodIn wsL_arrayText wsX6_arrayText := goodIn_ca (goodIn_ca (goodIn_ca (goodIn_r _ [7, 8, 9, 10, 6, 11, 12, 13, 14, 15, 16, 17, 18, 19, 20, 21, 22, 23, 24, 25, 26, 27, 28, 29, 30, 31, 32, 33, 34, 35, 36, 37, 38, 39, 40, 41, 42, 43, 44, 45, 46, 47, 48, 49, 50] (by decide +kernel) (by decide +kernel)) (goodIn_sub (fun _ h => List.mem_cons_of_mem _ (List.mem_append_left _ (List.mem_append_right _ h))) (by decide +kernel))) (goodIn_sub (fun _ h => List.mem_cons_of_mem _ (List.mem_append_right _ h)) (by decide +kernel))) (goodIn_sub (fun _ h => List.mem_cons_of_mem _ (List.mem_append_left _ (List.mem_append_left _ (List.mem_append_right _ h)))) (by decide +kernel))
set_option maxRecDepth 20000 in
theorem gL_arrayText_X6_arrayText : GoodIn wsL_arrayText (wsV RL 74 RX6 yX6_arrayText wsX6_arrayText) := goodIn_app (goodIn_of _ (by decide +kernel)) ggL_arrayText_X6_arrayText
theorem dL_arrayText_0 : decode cL_arrayText 0 = .ok (.aload 5, 2) := by decide +kernel
theorem dL_arrayText_2 : decode cL_arrayText 2 = .ok (.iconst 0, 1) := by decide +kernel
theorem dL_arrayText_3 : decode cL_arrayText 3 = .ok (.aload_n 0, 1) := by decide +kernel
theorem dL_arrayText_4 : decode cL_arrayText 4 = .ok (.iload_n 1, 1) := by decide +kernel
theorem dL_arrayText_5 : decode cL_arrayText 5 = .ok (.iload_n 2, 1) := by decide +kernel
theorem dL_arrayText_6 : decode cL_arrayText 6 = .ok (.iload_n 3, 1) := by decide +kernel
theorem dL_arrayText_7 : decode cL_arrayText 7 = .ok (.iload 4, 2) := by decide +kernel
theorem dL_arrayText_9 : decode cL_arrayText 9 = .ok (.invokevirtual 74, 3) := by decide +kernel
theorem dL_arrayText_12 : decode cL_arrayText 12 = .ok (.i2l, 1) := by decide +kernel
theorem dL_arrayText_13 : decode cL_arrayText 13 = .ok (.lastore, 1) := by decide +kernel
theorem dL_arrayText_14 : decode cL_arrayText 14 = .ok (.goto 11, 3) := by decide +kernel
theorem dL_arrayText_17 : decode cL_arrayText 17 = .ok (.astore 6, 2) := by decide +kernel
theorem dL_arrayText_19 : decode cL_arrayText 19 = .ok (.iconst 1, 1) := by decide +kernel
theorem dL_arrayText_20 : decode cL_arrayText 20 = .ok (.ireturn, 1) := by decide +kernel
theorem dL_arrayText_21 : decode cL_arrayText 21 = .ok (.astore 6, 2) := by decide +kernel
theorem dL_arrayText_23 : decode cL_arrayText 23 = .ok (.iconst 2, 1) := by decide +kernel
theorem dL_arrayText_24 : decode cL_arrayText 24 = .ok (.ireturn, 1) := by decide +kernel
theorem dL_arrayText_25 : decode cL_arrayText 25 = .ok (.iconst 0, 1) := by decide +kernel
theorem dL_arrayText_26 : decode cL_arrayText 26 = .ok (.ireturn, 1) := by decide +kernel
set_option maxRecDepth 20000 in
theorem ggL_arraySigns_X6_arraySigns : GoodIn wsL_arraySigns wsX6_arraySigns := goodIn_ca (goodIn_ca (goodIn_ca (goodIn_r _ [7, 8, 9, 10, 6, 11, 12, 13, 14, 15, 16, 17, 18, 19, 20, 21, 22, 23, 24, 25, 26, 27, 28, 29, 30, 31, 32, 33, 34, 35, 36, 37, 38, 39, 40, 41, 42, 43, 44, 45, 46, 47, 48, 49, 50] (by decide +kernel) (by decide +kernel)) (goodIn_sub (fun _ h => List.mem_cons_of_mem _ (List.mem_append_left _ (List.mem_append_right _ h))) (by decide +kernel))) (goodIn_sub (fun _ h => List.mem_cons_of_mem _ (List.mem_append_right _ h)) (by decide +kernel))) (goodIn_sub (fun _ h => List.mem_cons_of_mem _ (List.mem_append_left _ (List.mem_append_left _ (List.mem_append_right _ h)))) (by decide +kernel))
set_option maxRecDepth 20000 in
theorem gL_arraySigns_X6_arraySigns : GoodIn wsL_arraySigns (wsV RL 77 RX6 yX6_arraySigns wsX6_arraySigns) := goodIn_app (goodIn_of _ (by decide +kernel)) ggL_arraySigns_X6_arraySigns
theorem dL_arraySigns_0 : decode cL_arraySigns 0 = .ok (.aload 5, 2) := by decide +kernel
theorem dL_arraySigns_2 : decode cL_arraySigns 2 = .ok (.iconst 0, 1) := by decide +kernel
theorem dL_arraySigns_3 : decode cL_arraySigns 3 = .ok (.aload_n 0, 1) := by decide +kernel
theorem dL_arraySigns_4 : decode cL_arraySigns 4 = .ok (.iload_n 1, 1) := by decide +kernel
theorem dL_arraySigns_5 : decode cL_arraySigns 5 = .ok (.iload_n 2, 1) := by decide +kernel
theorem dL_arraySigns_6 : decode cL_arraySigns 6 = .ok (.iload_n 3, 1) := by decide +kernel
theorem dL_arraySigns_7 : decode cL_arraySigns 7 = .ok (.iload 4, 2) := by decide +kernel
theorem dL_arraySigns_9 : decode cL_arraySigns 9 = .ok (.invokevirtual 77, 3) := by decide +kernel
theorem dL_arraySigns_12 : decode cL_arraySigns 12 = .ok (.i2l, 1) := by decide +kernel
theorem dL_arraySigns_13 : decode cL_arraySigns 13 = .ok (.lastore, 1) := by decide +kernel
theorem dL_arraySigns_14 : decode cL_arraySigns 14 = .ok (.goto 11, 3) := by decide +kernel
theorem dL_arraySigns_17 : decode cL_arraySigns 17 = .ok (.astore 6, 2) := by decide +kernel
theorem dL_arraySigns_19 : decode cL_arraySigns 19 = .ok (.iconst 1, 1) := by decide +kernel
theorem dL_arraySigns_20 : decode cL_arraySigns 20 = .ok (.ireturn, 1) := by decide +kernel
theorem dL_arraySigns_21 : decode cL_arraySigns 21 = .ok (.astore 6, 2) := by decide +kernel
theorem dL_arraySigns_23 : decode cL_arraySigns 23 = .ok (.iconst 2, 1) := by decide +kernel
theorem dL_arraySigns_24 : decode cL_arraySigns 24 = .ok (.ireturn, 1) := by decide +kernel
theorem dL_arraySigns_25 : decode cL_arraySigns 25 = .ok (.iconst 0, 1) := by decide +kernel
theorem dL_arraySigns_26 : decode cL_arraySigns 26 = .ok (.ireturn, 1) := by decide +kernel
set_option maxRecDepth 20000 in
theorem ggL_arrayAppend_X6_arrayAppend : GoodIn wsL_arrayAppend wsX6_arrayAppend := goodIn_ca (goodIn_ca (goodIn_ca (goodIn_r _ [7, 8, 9, 10, 6, 11, 12, 13, 14, 15, 16, 17, 18, 19, 20, 21, 22, 23, 24, 25, 26, 27, 28, 29, 30, 31, 32, 33, 34, 35, 36, 37, 38, 39, 40, 41, 42] (by decide +kernel) (by decide +kernel)) (goodIn_sub (fun _ h => List.mem_cons_of_mem _ (List.mem_append_left _ (List.mem_append_right _ h))) (by decide +kernel))) (goodIn_sub (fun _ h => List.mem_cons_of_mem _ (List.mem_append_right _ h)) (by decide +kernel))) (goodIn_sub (fun _ h => List.mem_cons_of_mem _ (List.mem_append_left _ (List.mem_append_left _ (List.mem_append_right _ h)))) (by decide +kernel))
set_option maxRecDepth 20000 in
theorem gL_arrayAppend_X6_arrayAppend : GoodIn wsL_arrayAppend (wsV RL 80 RX6 yX6_arrayAppend wsX6_arrayAppend) := goodIn_app (goodIn_of _ (by decide +kernel)) ggL_arrayAppend_X6_arrayAppend
theorem dL_arrayAppend_0 : decode cL_arrayAppend 0 = .ok (.aload_n 3, 1) := by decide +kernel
theorem dL_arrayAppend_1 : decode cL_arrayAppend 1 = .ok (.iconst 0, 1) := by decide +kernel
theorem dL_arrayAppend_2 : decode cL_arrayAppend 2 = .ok (.aload_n 0, 1) := by decide +kernel
theorem dL_arrayAppend_3 : decode cL_arrayAppend 3 = .ok (.iload_n 1, 1) := by decide +kernel
theorem dL_arrayAppend_4 : decode cL_arrayAppend 4 = .ok (.iload_n 2, 1) := by decide +kernel
theorem dL_arrayAppend_5 : decode cL_arrayAppend 5 = .ok (.invokevirtual 80, 3) := by decide +kernel
theorem dL_arrayAppend_8 : decode cL_arrayAppend 8 = .ok (.i2l, 1) := by decide +kernel
theorem dL_arrayAppend_9 : decode cL_arrayAppend 9 = .ok (.lastore, 1) := by decide +kernel
theorem dL_arrayAppend_10 : decode cL_arrayAppend 10 = .ok (.goto 11, 3) := by decide +kernel
theorem dL_arrayAppend_13 : decode cL_arrayAppend 13 = .ok (.astore 4, 2) := by decide +kernel
theorem dL_arrayAppend_15 : decode cL_arrayAppend 15 = .ok (.iconst 1, 1) := by decide +kernel
theorem dL_arrayAppend_16 : decode cL_arrayAppend 16 = .ok (.ireturn, 1) := by decide +kernel
theorem dL_arrayAppend_17 : decode cL_arrayAppend 17 = .ok (.astore 4, 2) := by decide +kernel
theorem dL_arrayAppend_19 : decode cL_arrayAppend 19 = .ok (.iconst 2, 1) := by decide +kernel
theorem dL_arrayAppend_20 : decode cL_arrayAppend 20 = .ok (.ireturn, 1) := by decide +kernel
theorem dL_arrayAppend_21 : decode cL_arrayAppend 21 = .ok (.iconst 0, 1) := by decide +kernel
theorem dL_arrayAppend_22 : decode cL_arrayAppend 22 = .ok (.ireturn, 1) := by decide +kernel
set_option maxRecDepth 20000 in
theorem ggL_arraySize_X6_arraySize : GoodIn wsL_arraySize wsX6_arraySize := goodIn_ca (goodIn_r _ [6, 7, 8, 9, 10, 5, 11, 12, 13, 14, 15, 16, 17, 18, 19, 20, 21, 22, 23] (by decide +kernel) (by decide +kernel)) (goodIn_sub (fun _ h => List.mem_cons_of_mem _ (List.mem_append_right _ h)) (by decide +kernel))
set_option maxRecDepth 20000 in
theorem gL_arraySize_X6_arraySize : GoodIn wsL_arraySize (wsV RL 83 RX6 yX6_arraySize wsX6_arraySize) := goodIn_app (goodIn_of _ (by decide +kernel)) ggL_arraySize_X6_arraySize
theorem dL_arraySize_0 : decode cL_arraySize 0 = .ok (.aload_n 2, 1) := by decide +kernel
theorem dL_arraySize_1 : decode cL_arraySize 1 = .ok (.iconst 0, 1) := by decide +kernel
theorem dL_arraySize_2 : decode cL_arraySize 2 = .ok (.aload_n 0, 1) := by decide +kernel
theorem dL_arraySize_3 : decode cL_arraySize 3 = .ok (.iload_n 1, 1) := by decide +kernel
theorem dL_arraySize_4 : decode cL_arraySize 4 = .ok (.invokevirtual 83, 3) := by decide +kernel
theorem dL_arraySize_7 : decode cL_arraySize 7 = .ok (.i2l, 1) := by decide +kernel
theorem dL_arraySize_8 : decode cL_arraySize 8 = .ok (.lastore, 1) := by decide +kernel
theorem dL_arraySize_9 : decode cL_arraySize 9 = .ok (.goto 6, 3) := by decide +kernel
theorem dL_arraySize_12 : decode cL_arraySize 12 = .ok (.astore_n 3, 1) := by decide +kernel
theorem dL_arraySize_13 : decode cL_arraySize 13 = .ok (.iconst 1, 1) := by decide +kernel
theorem dL_arraySize_14 : decode cL_arraySize 14 = .ok (.ireturn, 1) := by decide +kernel
theorem dL_arraySize_15 : decode cL_arraySize 15 = .ok (.iconst 0, 1) := by decide +kernel
theorem dL_arraySize_16 : decode cL_arraySize 16 = .ok (.ireturn, 1) := by decide +kernel
set_option maxRecDepth 20000 in
theorem ggL_arrayTake_X6_arrayTake : GoodIn wsL_arrayTake wsX6_arrayTake := goodIn_ca (goodIn_ca (goodIn_r _ [6, 7, 8, 9, 5, 10, 11, 12, 13, 14, 15, 16, 17, 18, 19, 20, 21, 22, 23, 24, 25, 26, 27, 28, 29, 30, 31, 32, 33, 34, 35, 36, 37, 38, 39, 40, 41, 42, 43, 44, 45, 46, 47, 48, 49, 50, 51, 52] (by decide +kernel) (by decide +kernel)) (goodIn_sub (fun _ h => List.mem_cons_of_mem _ (List.mem_append_right _ h)) (by decide +kernel))) (goodIn_sub (fun _ h => List.mem_cons_of_mem _ (List.mem_append_left _ (List.mem_append_right _ h))) (by decide +kernel))
set_option maxRecDepth 20000 in
theorem gL_arrayTake_X6_arrayTake : GoodIn wsL_arrayTake (wsV RL 86 RX6 yX6_arrayTake wsX6_arrayTake) := goodIn_app (goodIn_of _ (by decide +kernel)) ggL_arrayTake_X6_arrayTake
theorem dL_arrayTake_0 : decode cL_arrayTake 0 = .ok (.aload_n 3, 1) := by decide +kernel
theorem dL_arrayTake_1 : decode cL_arrayTake 1 = .ok (.iconst 0, 1) := by decide +kernel
theorem dL_arrayTake_2 : decode cL_arrayTake 2 = .ok (.aload_n 0, 1) := by decide +kernel
theorem dL_arrayTake_3 : decode cL_arrayTake 3 = .ok (.iload_n 1, 1) := by decide +kernel
theorem dL_arrayTake_4 : decode cL_arrayTake 4 = .ok (.iload_n 2, 1) := by decide +kernel
theorem dL_arrayTake_5 : decode cL_arrayTake 5 = .ok (.invokevirtual 86, 3) := by decide +kernel
theorem dL_arrayTake_8 : decode cL_arrayTake 8 = .ok (.i2l, 1) := by decide +kernel
theorem dL_arrayTake_9 : decode cL_arrayTake 9 = .ok (.lastore, 1) := by decide +kernel
theorem dL_arrayTake_10 : decode cL_arrayTake 10 = .ok (.goto 7, 3) := by decide +kernel
theorem dL_arrayTake_13 : decode cL_arrayTake 13 = .ok (.astore 4, 2) := by decide +kernel
theorem dL_arrayTake_15 : decode cL_arrayTake 15 = .ok (.iconst 1, 1) := by decide +kernel
theorem dL_arrayTake_16 : decode cL_arrayTake 16 = .ok (.ireturn, 1) := by decide +kernel
theorem dL_arrayTake_17 : decode cL_arrayTake 17 = .ok (.iconst 0, 1) := by decide +kernel
theorem dL_arrayTake_18 : decode cL_arrayTake 18 = .ok (.ireturn, 1) := by decide +kernel
set_option maxRecDepth 20000 in
theorem ggL_pour_X6_pour : GoodIn wsL_pour wsX6_pour := goodIn_ca (goodIn_ca (goodIn_ca (goodIn_r _ [7, 8, 9, 10, 6, 11, 12, 13, 14, 15, 16, 17, 18, 19, 20, 21, 22, 23, 24, 25, 26, 27, 28, 29, 30, 31, 32, 33, 34, 35, 36, 37, 38, 39, 40, 41, 42, 43, 44, 45] (by decide +kernel) (by decide +kernel)) (goodIn_sub (fun _ h => List.mem_cons_of_mem _ (List.mem_append_left _ (List.mem_append_right _ h))) (by decide +kernel))) (goodIn_sub (fun _ h => List.mem_cons_of_mem _ (List.mem_append_right _ h)) (by decide +kernel))) (goodIn_sub (fun _ h => List.mem_cons_of_mem _ (List.mem_append_left _ (List.mem_append_left _ (List.mem_append_right _ h)))) (by decide +kernel))
set_option maxRecDepth 20000 in
theorem gL_pour_X6_pour : GoodIn wsL_pour (wsV RL 89 RX6 yX6_pour wsX6_pour) := goodIn_app (goodIn_of _ (by decide +kernel)) ggL_pour_X6_pour
theorem dL_pour_0 : decode cL_pour 0 = .ok (.aload_n 3, 1) := by decide +kernel
theorem dL_pour_1 : decode cL_pour 1 = .ok (.iconst 0, 1) := by decide +kernel
theorem dL_pour_2 : decode cL_pour 2 = .ok (.aload_n 0, 1) := by decide +kernel
theorem dL_pour_3 : decode cL_pour 3 = .ok (.iload_n 1, 1) := by decide +kernel
theorem dL_pour_4 : decode cL_pour 4 = .ok (.iload_n 2, 1) := by decide +kernel
theorem dL_pour_5 : decode cL_pour 5 = .ok (.invokevirtual 89, 3) := by decide +kernel
theorem dL_pour_8 : decode cL_pour 8 = .ok (.i2l, 1) := by decide +kernel
theorem dL_pour_9 : decode cL_pour 9 = .ok (.lastore, 1) := by decide +kernel
theorem dL_pour_10 : decode cL_pour 10 = .ok (.goto 11, 3) := by decide +kernel
theorem dL_pour_13 : decode cL_pour 13 = .ok (.astore 4, 2) := by decide +kernel
theorem dL_pour_15 : decode cL_pour 15 = .ok (.iconst 1, 1) := by decide +kernel
theorem dL_pour_16 : decode cL_pour 16 = .ok (.ireturn, 1) := by decide +kernel
theorem dL_pour_17 : decode cL_pour 17 = .ok (.astore 4, 2) := by decide +kernel
theorem dL_pour_19 : decode cL_pour 19 = .ok (.iconst 2, 1) := by decide +kernel
theorem dL_pour_20 : decode cL_pour 20 = .ok (.ireturn, 1) := by decide +kernel
theorem dL_pour_21 : decode cL_pour 21 = .ok (.iconst 0, 1) := by decide +kernel
theorem dL_pour_22 : decode cL_pour 22 = .ok (.ireturn, 1) := by decide +kernel
set_option maxRecDepth 20000 in
theorem ggL_pourOver_X6_pourOver : GoodIn wsL_pourOver wsX6_pourOver := goodIn_ca (goodIn_ca (goodIn_ca (goodIn_ca (goodIn_r _ [8, 9, 10, 11, 12, 13, 7, 14, 15, 16, 17, 18, 19, 20, 21, 22, 23, 24, 25, 26, 27, 28, 29, 30, 31, 32, 33, 34, 35, 36, 37, 38, 39, 40, 41, 42, 43] (by decide +kernel) (by decide +kernel)) (goodIn_sub (fun _ h => List.mem_cons_of_mem _ (List.mem_append_left _ (List.mem_append_left _ (List.mem_append_right _ h)))) (by decide +kernel))) (goodIn_sub (fun _ h => List.mem_cons_of_mem _ (List.mem_append_left _ (List.mem_append_right _ h))) (by decide +kernel))) (goodIn_sub (fun _ h => List.mem_cons_of_mem _ (List.mem_append_right _ h)) (by decide +kernel))) (goodIn_sub (fun _ h => List.mem_cons_of_mem _ (List.mem_append_left _ (List.mem_append_left _ (List.mem_append_left _ (List.mem_append_right _ h))))) (by decide +kernel))
set_option maxRecDepth 20000 in
theorem gL_pourOver_X6_pourOver : GoodIn wsL_pourOver (wsV RL 92 RX6 yX6_pourOver wsX6_pourOver) := goodIn_app (goodIn_of _ (by decide +kernel)) ggL_pourOver_X6_pourOver
theorem dL_pourOver_0 : decode cL_pourOver 0 = .ok (.aload_n 3, 1) := by decide +kernel
theorem dL_pourOver_1 : decode cL_pourOver 1 = .ok (.iconst 0, 1) := by decide +kernel
theorem dL_pourOver_2 : decode cL_pourOver 2 = .ok (.aload_n 0, 1) := by decide +kernel
theorem dL_pourOver_3 : decode cL_pourOver 3 = .ok (.iload_n 1, 1) := by decide +kernel
theorem dL_pourOver_4 : decode cL_pourOver 4 = .ok (.iload_n 2, 1) := by decide +kernel
theorem dL_pourOver_5 : decode cL_pourOver 5 = .ok (.invokevirtual 92, 3) := by decide +kernel
theorem dL_pourOver_8 : decode cL_pourOver 8 = .ok (.i2l, 1) := by decide +kernel
theorem dL_pourOver_9 : decode cL_pourOver 9 = .ok (.lastore, 1) := by decide +kernel
theorem dL_pourOver_10 : decode cL_pourOver 10 = .ok (.goto 15, 3) := by decide +kernel
theorem dL_pourOver_13 : decode cL_pourOver 13 = .ok (.astore 4, 2) := by decide +kernel
theorem dL_pourOver_15 : decode cL_pourOver 15 = .ok (.iconst 1, 1) := by decide +kernel
theorem dL_pourOver_16 : decode cL_pourOver 16 = .ok (.ireturn, 1) := by decide +kernel
theorem dL_pourOver_17 : decode cL_pourOver 17 = .ok (.astore 4, 2) := by decide +kernel
theorem dL_pourOver_19 : decode cL_pourOver 19 = .ok (.iconst 2, 1) := by decide +kernel
theorem dL_pourOver_20 : decode cL_pourOver 20 = .ok (.ireturn, 1) := by decide +kernel
theorem dL_pourOver_21 : decode cL_pourOver 21 = .ok (.astore 4, 2) := by decide +kernel
theorem dL_pourOver_23 : decode cL_pourOver 23 = .ok (.iconst 3, 1) := by decide +kernel
theorem dL_pourOver_24 : decode cL_pourOver 24 = .ok (.ireturn, 1) := by decide +kernel
theorem dL_pourOver_25 : decode cL_pourOver 25 = .ok (.iconst 0, 1) := by decide +kernel
theorem dL_pourOver_26 : decode cL_pourOver 26 = .ok (.ireturn, 1) := by decide +kernel
set_option maxRecDepth 20000 in
theorem ggL_areLike_X6_areLike : GoodIn wsL_areLike wsX6_areLike := goodIn_ca (goodIn_ca (goodIn_r _ [6, 7, 8, 9, 5, 10, 11, 12, 13, 14, 15, 16, 17, 18, 19, 20, 21, 22, 23, 24, 25, 26, 27, 28, 29, 30, 31, 32, 33, 34] (by decide +kernel) (by decide +kernel)) (goodIn_sub (fun _ h => List.mem_cons_of_mem _ (List.mem_append_right _ h)) (by decide +kernel))) (goodIn_sub (fun _ h => List.mem_cons_of_mem _ (List.mem_append_left _ (List.mem_append_right _ h))) (by decide +kernel))
set_option maxRecDepth 20000 in
theorem gL_areLike_X6_areLike : GoodIn wsL_areLike (wsV RL 95 RX6 yX6_areLike wsX6_areLike) := goodIn_app (goodIn_of _ (by decide +kernel)) ggL_areLike_X6_areLike
theorem dL_areLike_0 : decode cL_areLike 0 = .ok (.aload_n 3, 1) := by decide +kernel
theorem dL_areLike_1 : decode cL_areLike 1 = .ok (.iconst 0, 1) := by decide +kernel
theorem dL_areLike_2 : decode cL_areLike 2 = .ok (.aload_n 0, 1) := by decide +kernel
theorem dL_areLike_3 : decode cL_areLike 3 = .ok (.iload_n 1, 1) := by decide +kernel
theorem dL_areLike_4 : decode cL_areLike 4 = .ok (.iload_n 2, 1) := by decide +kernel
theorem dL_areLike_5 : decode cL_areLike 5 = .ok (.invokevirtual 95, 3) := by decide +kernel
theorem dL_areLike_8 : decode cL_areLike 8 = .ok (.ifCond .eq 7, 3) := by decide +kernel
theorem dL_areLike_11 : decode cL_areLike 11 = .ok (.lconst 1, 1) := by decide +kernel
theorem dL_areLike_12 : decode cL_areLike 12 = .ok (.goto 4, 3) := by decide +kernel
theorem dL_areLike_15 : decode cL_areLike 15 = .ok (.lconst 0, 1) := by decide +kernel
theorem dL_areLike_16 : decode cL_areLike 16 = .ok (.lastore, 1) := by decide +kernel
theorem dL_areLike_17 : decode cL_areLike 17 = .ok (.goto 7, 3) := by decide +kernel
theorem dL_areLike_20 : decode cL_areLike 20 = .ok (.astore 4, 2) := by decide +kernel
theorem dL_areLike_22 : decode cL_areLike 22 = .ok (.iconst 1, 1) := by decide +kernel
theorem dL_areLike_23 : decode cL_areLike 23 = .ok (.ireturn, 1) := by decide +kernel
theorem dL_areLike_24 : decode cL_areLike 24 = .ok (.iconst 0, 1) := by decide +kernel
theorem dL_areLike_25 : decode cL_areLike 25 = .ok (.ireturn, 1) := by decide +kernel
set_option maxRecDepth 20000 in
theorem ggL_open_X6_open : GoodIn wsL_open wsX6_open := goodIn_ca (goodIn_ca (goodIn_r _ [7, 8, 9, 10, 11, 6, 12, 13, 14, 15, 16, 17, 18, 19, 20, 21, 22, 23, 24, 25, 26, 27, 28, 29, 30, 31, 32, 33, 34, 35, 36, 37, 38, 39, 40, 41, 42, 43, 44, 45, 46, 47, 48, 49, 50, 51, 52, 53, 54, 55, 56, 57, 58, 59, 60, 61, 62, 63] (by decide +kernel) (by decide +kernel)) (goodIn_sub (fun _ h => List.mem_cons_of_mem _ (List.mem_append_left _ (List.mem_append_right _ h))) (by decide +kernel))) (goodIn_sub (fun _ h => List.mem_cons_of_mem _ (List.mem_append_right _ h)) (by decide +kernel))
set_option maxRecDepth 20000 in
theorem gL_open_X6_open : GoodIn wsL_open (wsV RL 99 RX6 yX6_open wsX6_open) := goodIn_app (goodIn_of _ (by decide +kernel)) ggL_open_X6_open
theorem dL_open_0 : decode cL_open 0 = .ok (.aload 5, 2) := by decide +kernel
theorem dL_open_2 : decode cL_open 2 = .ok (.iconst 0, 1) := by decide +kernel
theorem dL_open_3 : decode cL_open 3 = .ok (.aload_n 0, 1) := by decide +kernel
theorem dL_open_4 : decode cL_open 4 = .ok (.iload_n 1, 1) := by decide +kernel
theorem dL_open_5 : decode cL_open 5 = .ok (.iload_n 2, 1) := by decide +kernel
theorem dL_open_6 : decode cL_open 6 = .ok (.iload_n 3, 1) := by decide +kernel
theorem dL_open_7 : decode cL_open 7 = .ok (.iload 4, 2) := by decide +kernel
theorem dL_open_9 : decode cL_open 9 = .ok (.invokevirtual 99, 3) := by decide +kernel
theorem dL_open_12 : decode cL_open 12 = .ok (.i2l, 1) := by decide +kernel
theorem dL_open_13 : decode cL_open 13 = .ok (.lastore, 1) := by decide +kernel
theorem dL_open_14 : decode cL_open 14 = .ok (.goto 11, 3) := by decide +kernel
theorem dL_open_17 : decode cL_open 17 = .ok (.astore 6, 2) := by decide +kernel
theorem dL_open_19 : decode cL_open 19 = .ok (.iconst 1, 1) := by decide +kernel
theorem dL_open_20 : decode cL_open 20 = .ok (.ireturn, 1) := by decide +kernel
theorem dL_open_21 : decode cL_open 21 = .ok (.astore 6, 2) := by decide +kernel
theorem dL_open_23 : decode cL_open 23 = .ok (.iconst 2, 1) := by decide +kernel
theorem dL_open_24 : decode cL_open 24 = .ok (.ireturn, 1) := by decide +kernel
theorem dL_open_25 : decode cL_open 25 = .ok (.iconst 0, 1) := by decide +kernel
theorem dL_open_26 : decode cL_open 26 = .ok (.ireturn, 1) := by decide +kernel
set_option maxRecDepth 20000 in
theorem ggL_openAll_X6_openAll : GoodIn wsL_openAll wsX6_openAll := goodIn_ca (goodIn_r _ [6, 7, 8, 9, 10, 5, 11, 12, 13, 14, 15, 16, 17, 18, 19, 20, 21, 22, 23, 24, 25, 26, 27, 28, 29, 30, 31, 32, 33, 34, 35, 36, 37, 38, 39, 40, 41, 42, 43, 44, 45, 46, 47, 48, 49, 50, 51, 52, 53] (by decide +kernel) (by decide +kernel)) (goodIn_sub (fun _ h => List.mem_cons_of_mem _ (List.mem_append_right _ h)) (by decide +kernel))
set_option maxRecDepth 20000 in
theorem gL_openAll_X6_openAll : GoodIn wsL_openAll (wsV RL 102 RX6 yX6_openAll wsX6_openAll) := goodIn_app (goodIn_of _ (by decide +kernel)) ggL_openAll_X6_openAll
theorem dL_openAll_0 : decode cL_openAll 0 = .ok (.aload_n 3, 1) := by decide +kernel
theorem dL_openAll_1 : decode cL_openAll 1 = .ok (.iconst 0, 1) := by decide +kernel
theorem dL_openAll_2 : decode cL_openAll 2 = .ok (.aload_n 0, 1) := by decide +kernel
theorem dL_openAll_3 : decode cL_openAll 3 = .ok (.iload_n 1, 1) := by decide +kernel
theorem dL_openAll_4 : decode cL_openAll 4 = .ok (.iload_n 2, 1) := by decide +kernel
theorem dL_openAll_5 : decode cL_openAll 5 = .ok (.invokevirtual 102, 3) := by decide +kernel
theorem dL_openAll_8 : decode cL_openAll 8 = .ok (.i2l, 1) := by decide +kernel
theorem dL_openAll_9 : decode cL_openAll 9 = .ok (.lastore, 1) := by decide +kernel
theorem dL_openAll_10 : decode cL_openAll 10 = .ok (.goto 7, 3) := by decide +kernel
theorem dL_openAll_13 : decode cL_openAll 13 = .ok (.astore 4, 2) := by decide +kernel
theorem dL_openAll_15 : decode cL_openAll 15 = .ok (.iconst 1, 1) := by decide +kernel
theorem dL_openAll_16 : decode cL_openAll 16 = .ok (.ireturn, 1) := by decide +kernel
theorem dL_openAll_17 : decode cL_openAll 17 = .ok (.iconst 0, 1) := by decide +kernel
theorem dL_openAll_18 : decode cL_openAll 18 = .ok (.ireturn, 1) := by decide +kernel
set_option maxRecDepth 20000 in
theorem ggL_shut_X6_shut : GoodIn wsL_shut wsX6_shut := goodIn_ca (goodIn_ca (goodIn_r _ [7, 8, 9, 10, 11, 12, 13, 14, 6, 15, 16, 17, 18, 19, 20, 21, 22, 23, 24, 25, 26, 27, 28, 29, 30, 31, 32, 33, 34, 35, 36, 37, 38] (by decide +kernel) (by decide +kernel)) (goodIn_sub (fun _ h => List.mem_cons_of_mem _ (List.mem_append_left _ (List.mem_append_right _ h))) (by decide +kernel))) (goodIn_sub (fun _ h => List.mem_cons_of_mem _ (List.mem_append_right _ h)) (by decide +kernel))
set_option maxRecDepth 20000 in
theorem gL_shut_X6_shut : GoodIn wsL_shut (wsV RL 105 RX6 yX6_shut wsX6_shut) := goodIn_app (goodIn_of _ (by decide +kernel)) ggL_shut_X6_shut
theorem dL_shut_0 : decode cL_shut 0 = .ok (.aload_n 2, 1) := by decide +kernel
theorem dL_shut_1 : decode cL_shut 1 = .ok (.iconst 0, 1) := by decide +kernel
theorem dL_shut_2 : decode cL_shut 2 = .ok (.aload_n 0, 1) := by decide +kernel
theorem dL_shut_3 : decode cL_shut 3 = .ok (.iload_n 1, 1) := by decide +kernel
theorem dL_shut_4 : decode cL_shut 4 = .ok (.invokevirtual 105, 3) := by decide +kernel
theorem dL_shut_7 : decode cL_shut 7 = .ok (.i2l, 1) := by decide +kernel
theorem dL_shut_8 : decode cL_shut 8 = .ok (.lastore, 1) := by decide +kernel
theorem dL_shut_9 : decode cL_shut 9 = .ok (.goto 9, 3) := by decide +kernel
theorem dL_shut_12 : decode cL_shut 12 = .ok (.astore_n 3, 1) := by decide +kernel
theorem dL_shut_13 : decode cL_shut 13 = .ok (.iconst 1, 1) := by decide +kernel
theorem dL_shut_14 : decode cL_shut 14 = .ok (.ireturn, 1) := by decide +kernel
theorem dL_shut_15 : decode cL_shut 15 = .ok (.astore_n 3, 1) := by decide +kernel
theorem dL_shut_16 : decode cL_shut 16 = .ok (.iconst 2, 1) := by decide +kernel
theorem dL_shut_17 : decode cL_shut 17 = .ok (.ireturn, 1) := by decide +kernel
theorem dL_shut_18 : decode cL_shut 18 = .ok (.iconst 0, 1) := by decide +kernel
theorem dL_shut_19 : decode cL_shut 19 = .ok (.ireturn, 1) := by decide +kernel
set_option maxRecDepth 20000 in
theorem ggL_read_X6_read : GoodIn wsL_read wsX6_read := goodIn_ca (goodIn_ca (goodIn_ca (goodIn_r _ [7, 8, 9, 10, 6, 11, 12, 13, 14, 15, 16, 17, 18, 19, 20, 21, 22, 23, 24, 25, 26, 27, 28, 29, 30, 31, 32, 33, 34, 35, 36, 37, 38, 39, 40, 41, 42, 43, 44, 45] (by decide +kernel) (by decide +kernel)) (goodIn_sub (fun _ h => List.mem_cons_of_mem _ (List.mem_append_left _ (List.mem_append_right _ h))) (by decide +kernel))) (goodIn_sub (fun _ h => List.mem_cons_of_mem _ (List.mem_append_right _ h)) (by decide +kernel))) (goodIn_sub (fun _ h => List.mem_cons_of_mem _ (List.mem_append_left _ (List.mem_append_left _ (List.mem_append_right _ h)))) (by decide +kernel))
set_option maxRecDepth 20000 in
theorem gL_read_X6_read : GoodIn wsL_read (wsV RL 110 RX6 yX6_read wsX6_read) := goodIn_app (goodIn_of _ (by decide +kernel)) ggL_read_X6_read
theorem dL_read_0 : decode cL_read 0 = .ok (.aload_n 2, 1) := by decide +kernel
theorem dL_read_1 : decode cL_read 1 = .ok (.iconst 0, 1) := by decide +kernel
theorem dL_read_2 : decode cL_read 2 = .ok (.aload_n 0, 1) := by decide +kernel
theorem dL_read_3 : decode cL_read 3 = .ok (.iload_n 1, 1) := by decide +kernel
theorem dL_read_4 : decode cL_read 4 = .ok (.invokevirtual 110, 3) := by decide +kernel
theorem dL_read_7 : decode cL_read 7 = .ok (.i2l, 1) := by decide +kernel
theorem dL_read_8 : decode cL_read 8 = .ok (.lastore, 1) := by decide +kernel
theorem dL_read_9 : decode cL_read 9 = .ok (.goto 9, 3) := by decide +kernel
theorem dL_read_12 : decode cL_read 12 = .ok (.astore_n 3, 1) := by decide +kernel
theorem dL_read_13 : decode cL_read 13 = .ok (.iconst 1, 1) := by decide +kernel
theorem dL_read_14 : decode cL_read 14 = .ok (.ireturn, 1) := by decide +kernel
theorem dL_read_15 : decode cL_read 15 = .ok (.astore_n 3, 1) := by decide +kernel
theorem dL_read_16 : decode cL_read 16 = .ok (.iconst 2, 1) := by decide +kernel
theorem dL_read_17 : decode cL_read 17 = .ok (.ireturn, 1) := by decide +kernel
theorem dL_read_18 : decode cL_read 18 = .ok (.iconst 0, 1) := by decide +kernel
theorem dL_read_19 : decode cL_read 19 = .ok (.ireturn, 1) := by decide +kernel
set_option maxRecDepth 20000 in
theorem ggL_readPart_X6_readPart : GoodIn wsL_readPart wsX6_readPart := goodIn_ca (goodIn_ca (goodIn_ca (goodIn_ca (goodIn_ca (goodIn_r _ [9, 10, 11, 12, 13, 14, 15, 16, 8, 17, 18, 19, 20, 21, 22, 23, 24, 25, 26, 27, 28, 29, 30, 31, 32, 33, 34, 35, 36, 37, 38, 39, 40, 41, 42, 43, 44, 45, 46, 47, 48, 49, 50, 51, 52, 53, 54, 55, 56, 57, 58, 59, 60, 61, 62, 63, 64, 65, 66, 67, 68] (by decide +kernel) (by decide +kernel)) (goodIn_sub (fun _ h => List.mem_cons_of_mem _ (List.mem_append_left _ (List.mem_append_left _ (List.mem_append_left _ (List.mem_append_right _ h))))) (by decide +kernel))) (goodIn_sub (fun _ h => List.mem_cons_of_mem _ (List.mem_append_left _ (List.mem_append_left _ (List.mem_append_right _ h)))) (by decide +kernel))) (goodIn_sub (fun _ h => List.mem_cons_of_mem _ (List.mem_append_left _ (List.mem_append_right _ h))) (by decide +kernel))) (goodIn_sub (fun _ h => List.mem_cons_of_mem _ (List.mem_append_right _ h)) (by decide +kernel))) (goodIn_sub (fun _ h => List.mem_cons_of_mem _ (List.mem_append_left _ (List.mem_append_left _ (List.mem_append_left _ (List.mem_append_left _ (List.mem_append_right _ h)))))) (by decide +kernel))
set_option maxRecDepth 20000 in
theorem gL_readPart_X6_readPart : GoodIn wsL_readPart (wsV RL 113 RX6 yX6_readPart wsX6_readPart) := goodIn_app (goodIn_of _ (by decide +kernel)) ggL_readPart_X6_readPart
theorem dL_readPart_0 : decode cL_readPart 0 = .ok (.aload 5, 2) := by decide +kernel
theorem dL_readPart_2 : decode cL_readPart 2 = .ok (.iconst 0, 1) := by decide +kernel
theorem dL_readPart_3 : decode cL_readPart 3 = .ok (.aload_n 0, 1) := by decide +kernel
theorem dL_readPart_4 : decode cL_readPart 4 = .ok (.iload_n 1, 1) := by decide +kernel
theorem dL_readPart_5 : decode cL_readPart 5 = .ok (.iload_n 2, 1) := by decide +kernel
theorem dL_readPart_6 : decode cL_readPart 6 = .ok (.iload_n 3, 1) := by decide +kernel
theorem dL_readPart_7 : decode cL_readPart 7 = .ok (.iload 4, 2) := by decide +kernel
theorem dL_readPart_9 : decode cL_readPart 9 = .ok (.invokevirtual 113, 3) := by decide +kernel
theorem dL_readPart_12 : decode cL_readPart 12 = .ok (.i2l, 1) := by decide +kernel
theorem dL_readPart_13 : decode cL_readPart 13 = .ok (.lastore, 1) := by decide +kernel
theorem dL_readPart_14 : decode cL_readPart 14 = .ok (.goto 19, 3) := by decide +kernel
theorem dL_readPart_17 : decode cL_readPart 17 = .ok (.astore 6, 2) := by decide +kernel
theorem dL_readPart_19 : decode cL_readPart 19 = .ok (.iconst 1, 1) := by decide +kernel
theorem dL_readPart_20 : decode cL_readPart 20 = .ok (.ireturn, 1) := by decide +kernel
theorem dL_readPart_21 : decode cL_readPart 21 = .ok (.astore 6, 2) := by decide +kernel
theorem dL_readPart_23 : decode cL_readPart 23 = .ok (.iconst 2, 1) := by decide +kernel
theorem dL_readPart_24 : decode cL_readPart 24 = .ok (.ireturn, 1) := by decide +kernel
theorem dL_readPart_25 : decode cL_readPart 25 = .ok (.astore 6, 2) := by decide +kernel
theorem dL_readPart_27 : decode cL_readPart 27 = .ok (.iconst 3, 1) := by decide +kernel
theorem dL_readPart_28 : decode cL_readPart 28 = .ok (.ireturn, 1) := by decide +kernel
theorem dL_readPart_29 : decode cL_readPart 29 = .ok (.astore 6, 2) := by decide +kernel
theorem dL_readPart_31 : decode cL_readPart 31 = .ok (.iconst 4, 1) := by decide +kernel
theorem dL_readPart_32 : decode cL_readPart 32 = .ok (.ireturn, 1) := by decide +kernel
theorem dL_readPart_33 : decode cL_readPart 33 = .ok (.iconst 0, 1) := by decide +kernel
theorem dL_readPart_34 : decode cL_readPart 34 = .ok (.ireturn, 1) := by decide +kernel
set_option maxRecDepth 20000 in
theorem ggL_skip_X6_skip : GoodIn wsL_skip wsX6_skip := goodIn_ca (goodIn_ca (goodIn_r _ [7, 8, 9, 10, 6, 11, 12, 13, 14, 15, 16, 17, 18, 19, 20, 21, 22, 23, 24, 25, 26, 27, 28, 29, 30, 31, 32, 33, 34, 35, 36, 37, 38, 39, 40, 41, 42, 43, 44, 45, 46, 47, 48, 49] (by decide +kernel) (by decide +kernel)) (goodIn_sub (fun _ h => List.mem_cons_of_mem _ (List.mem_append_left _ (List.mem_append_right _ h))) (by decide +kernel))) (goodIn_sub (fun _ h => List.mem_cons_of_mem _ (List.mem_append_right _ h)) (by decide +kernel))
set_option maxRecDepth 20000 in
theorem gL_skip_X6_skip : GoodIn wsL_skip (wsV RL 116 RX6 yX6_skip wsX6_skip) := goodIn_app (goodIn_of _ (by decide +kernel)) ggL_skip_X6_skip
theorem dL_skip_0 : decode cL_skip 0 = .ok (.aload 4, 2) := by decide +kernel
theorem dL_skip_2 : decode cL_skip 2 = .ok (.iconst 0, 1) := by decide +kernel
theorem dL_skip_3 : decode cL_skip 3 = .ok (.aload_n 0, 1) := by decide +kernel
theorem dL_skip_4 : decode cL_skip 4 = .ok (.iload_n 1, 1) := by decide +kernel
theorem dL_skip_5 : decode cL_skip 5 = .ok (.lload_n 2, 1) := by decide +kernel
theorem dL_skip_6 : decode cL_skip 6 = .ok (.invokevirtual 116, 3) := by decide +kernel
theorem dL_skip_9 : decode cL_skip 9 = .ok (.lastore, 1) := by decide +kernel
theorem dL_skip_10 : decode cL_skip 10 = .ok (.goto 11, 3) := by decide +kernel
theorem dL_skip_13 : decode cL_skip 13 = .ok (.astore 5, 2) := by decide +kernel
theorem dL_skip_15 : decode cL_skip 15 = .ok (.iconst 1, 1) := by decide +kernel
theorem dL_skip_16 : decode cL_skip 16 = .ok (.ireturn, 1) := by decide +kernel
theorem dL_skip_17 : decode cL_skip 17 = .ok (.astore 5, 2) := by decide +kernel
theorem dL_skip_19 : decode cL_skip 19 = .ok (.iconst 2, 1) := by decide +kernel
theorem dL_skip_20 : decode cL_skip 20 = .ok (.ireturn, 1) := by decide +kernel
theorem dL_skip_21 : decode cL_skip 21 = .ok (.iconst 0, 1) := by decide +kernel
theorem dL_skip_22 : decode cL_skip 22 = .ok (.ireturn, 1) := by decide +kernel
set_option maxRecDepth 20000 in
theorem ggL_mark_X6_mark : GoodIn wsL_mark wsX6_mark := goodIn_ca (goodIn_ca (goodIn_ca (goodIn_r _ [8, 9, 10, 11, 12, 13, 14, 15, 7, 16, 17, 18, 19, 20, 21, 22, 23, 24, 25, 26, 27, 28, 29, 30, 31, 32, 33, 34, 35, 36, 37, 38, 39, 40, 41, 42, 43, 44, 45, 46, 47] (by decide +kernel) (by decide +kernel)) (goodIn_sub (fun _ h => List.mem_cons_of_mem _ (List.mem_append_left _ (List.mem_append_left _ (List.mem_append_right _ h)))) (by decide +kernel))) (goodIn_sub (fun _ h => List.mem_cons_of_mem _ (List.mem_append_left _ (List.mem_append_right _ h))) (by decide +kernel))) (goodIn_sub (fun _ h => List.mem_cons_of_mem _ (List.mem_append_right _ h)) (by decide +kernel))
set_option maxRecDepth 20000 in
theorem gL_mark_X6_mark : GoodIn wsL_mark (wsV RL 120 RX6 yX6_mark wsX6_mark) := goodIn_app (goodIn_of _ (by decide +kernel)) ggL_mark_X6_mark
theorem dL_mark_0 : decode cL_mark 0 = .ok (.aload_n 3, 1) := by decide +kernel
theorem dL_mark_1 : decode cL_mark 1 = .ok (.iconst 0, 1) := by decide +kernel
theorem dL_mark_2 : decode cL_mark 2 = .ok (.aload_n 0, 1) := by decide +kernel
theorem dL_mark_3 : decode cL_mark 3 = .ok (.iload_n 1, 1) := by decide +kernel
theorem dL_mark_4 : decode cL_mark 4 = .ok (.iload_n 2, 1) := by decide +kernel
theorem dL_mark_5 : decode cL_mark 5 = .ok (.invokevirtual 120, 3) := by decide +kernel
theorem dL_mark_8 : decode cL_mark 8 = .ok (.i2l, 1) := by decide +kernel
theorem dL_mark_9 : decode cL_mark 9 = .ok (.lastore, 1) := by decide +kernel
theorem dL_mark_10 : decode cL_mark 10 = .ok (.goto 15, 3) := by decide +kernel
theorem dL_mark_13 : decode cL_mark 13 = .ok (.astore 4, 2) := by decide +kernel
theorem dL_mark_15 : decode cL_mark 15 = .ok (.iconst 1, 1) := by decide +kernel
theorem dL_mark_16 : decode cL_mark 16 = .ok (.ireturn, 1) := by decide +kernel
theorem dL_mark_17 : decode cL_mark 17 = .ok (.astore 4, 2) := by decide +kernel
theorem dL_mark_19 : decode cL_mark 19 = .ok (.iconst 2, 1) := by decide +kernel
theorem dL_mark_20 : decode cL_mark 20 = .ok (.ireturn, 1) := by decide +kernel
theorem dL_mark_21 : decode cL_mark 21 = .ok (.astore 4, 2) := by decide +kernel
theorem dL_mark_23 : decode cL_mark 23 = .ok (.iconst 3, 1) := by decide +kernel
theorem dL_mark_24 : decode cL_mark 24 = .ok (.ireturn, 1) := by decide +kernel
theorem dL_mark_25 : decode cL_mark 25 = .ok (.iconst 0, 1) := by decide +kernel
theorem dL_mark_26 : decode cL_mark 26 = .ok (.ireturn, 1) := by decide +kernel
set_option maxRecDepth 20000 in
theorem ggL_back_X6_back : GoodIn wsL_back wsX6_back := goodIn_ca (goodIn_ca (goodIn_r _ [7, 8, 9, 10, 11, 12, 6, 13, 14, 15, 16, 17, 18, 19, 20, 21, 22, 23, 24, 25, 26, 27, 28, 29, 30, 31, 32, 33, 34, 35, 36, 37, 38, 39, 40, 41, 42, 43, 44] (by decide +kernel) (by decide +kernel)) (goodIn_sub (fun _ h => List.mem_cons_of_mem _ (List.mem_append_left _ (List.mem_append_right _ h))) (by decide +kernel))) (goodIn_sub (fun _ h => List.mem_cons_of_mem _ (List.mem_append_right _ h)) (by decide +kernel))
set_option maxRecDepth 20000 in
theorem gL_back_X6_back : GoodIn wsL_back (wsV RL 123 RX6 yX6_back wsX6_back) := goodIn_app (goodIn_of _ (by decide +kernel)) ggL_back_X6_back
theorem dL_back_0 : decode cL_back 0 = .ok (.aload_n 2, 1) := by decide +kernel
theorem dL_back_1 : decode cL_back 1 = .ok (.iconst 0, 1) := by decide +kernel
theorem dL_back_2 : decode cL_back 2 = .ok (.aload_n 0, 1) := by decide +kernel
theorem dL_back_3 : decode cL_back 3 = .ok (.iload_n 1, 1) := by decide +kernel
theorem dL_back_4 : decode cL_back 4 = .ok (.invokevirtual 123, 3) := by decide +kernel
theorem dL_back_7 : decode cL_back 7 = .ok (.i2l, 1) := by decide +kernel
theorem dL_back_8 : decode cL_back 8 = .ok (.lastore, 1) := by decide +kernel
theorem dL_back_9 : decode cL_back 9 = .ok (.goto 9, 3) := by decide +kernel
theorem dL_back_12 : decode cL_back 12 = .ok (.astore_n 3, 1) := by decide +kernel
theorem dL_back_13 : decode cL_back 13 = .ok (.iconst 1, 1) := by decide +kernel
theorem dL_back_14 : decode cL_back 14 = .ok (.ireturn, 1) := by decide +kernel
theorem dL_back_15 : decode cL_back 15 = .ok (.astore_n 3, 1) := by decide +kernel
theorem dL_back_16 : decode cL_back 16 = .ok (.iconst 2, 1) := by decide +kernel
theorem dL_back_17 : decode cL_back 17 = .ok (.ireturn, 1) := by decide +kernel
theorem dL_back_18 : decode cL_back 18 = .ok (.iconst 0, 1) := by decide +kernel
theorem dL_back_19 : decode cL_back 19 = .ok (.ireturn, 1) := by decide +kernel
set_option maxRecDepth 20000 in
theorem ggL_join_X6_join : GoodIn wsL_join wsX6_join := goodIn_ca (goodIn_r _ [6, 7, 8, 9, 10, 5, 11, 12, 13, 14, 15, 16, 17, 18, 19, 20, 21, 22, 23, 24, 25, 26, 27, 28, 29, 30, 31, 32, 33, 34, 35, 36, 37, 38, 39, 40, 41, 42, 43, 44, 45, 46, 47, 48, 49] (by decide +kernel) (by decide +kernel)) (goodIn_sub (fun _ h => List.mem_cons_of_mem _ (List.mem_append_right _ h)) (by decide +kernel))
set_option maxRecDepth 20000 in
theorem gL_join_X6_join : GoodIn wsL_join (wsV RL 126 RX6 yX6_join wsX6_join) := goodIn_app (goodIn_of _ (by decide +kernel)) ggL_join_X6_join
theorem dL_join_0 : decode cL_join 0 = .ok (.aload 4, 2) := by decide +kernel
theorem dL_join_2 : decode cL_join 2 = .ok (.iconst 0, 1) := by decide +kernel
theorem dL_join_3 : decode cL_join 3 = .ok (.aload_n 0, 1) := by decide +kernel
theorem dL_join_4 : decode cL_join 4 = .ok (.iload_n 1, 1) := by decide +kernel
theorem dL_join_5 : decode cL_join 5 = .ok (.iload_n 2, 1) := by decide +kernel
theorem dL_join_6 : decode cL_join 6 = .ok (.iload_n 3, 1) := by decide +kernel
theorem dL_join_7 : decode cL_join 7 = .ok (.invokevirtual 126, 3) := by decide +kernel
theorem dL_join_10 : decode cL_join 10 = .ok (.i2l, 1) := by decide +kernel
theorem dL_join_11 : decode cL_join 11 = .ok (.lastore, 1) := by decide +kernel
theorem dL_join_12 : decode cL_join 12 = .ok (.goto 7, 3) := by decide +kernel
theorem dL_join_15 : decode cL_join 15 = .ok (.astore 5, 2) := by decide +kernel
theorem dL_join_17 : decode cL_join 17 = .ok (.iconst 1, 1) := by decide +kernel
theorem dL_join_18 : decode cL_join 18 = .ok (.ireturn, 1) := by decide +kernel
theorem dL_join_19 : decode cL_join 19 = .ok (.iconst 0, 1) := by decide +kernel
theorem dL_join_20 : decode cL_join 20 = .ok (.ireturn, 1) := by decide +kernel
set_option maxRecDepth 20000 in
theorem ggL_joinThree_X6_joinThree : GoodIn wsL_joinThree wsX6_joinThree := goodIn_ca (goodIn_r _ [6, 7, 8, 9, 10, 5, 11, 12, 13, 14, 15, 16, 17, 18, 19, 20, 21, 22, 23, 24, 25, 26, 27, 28, 29, 30, 31, 32, 33, 34, 35, 36, 37, 38, 39, 40, 41, 42, 43, 44, 45, 46, 47, 48, 49, 50, 51, 52, 53] (by decide +kernel) (by decide +kernel)) (goodIn_sub (fun _ h => List.mem_cons_of_mem _ (List.mem_append_right _ h)) (by decide +kernel))
set_option maxRecDepth 20000 in
theorem gL_joinThree_X6_joinThree : GoodIn wsL_joinThree (wsV RL 129 RX6 yX6_joinThree wsX6_joinThree) := goodIn_app (goodIn_of _ (by decide +kernel)) ggL_joinThree_X6_joinThree
theorem dL_joinThree_0 : decode cL_joinThree 0 = .ok (.aload 6, 2) := by decide +kernel
theorem dL_joinThree_2 : decode cL_joinThree 2 = .ok (.iconst 0, 1) := by decide +kernel
theorem dL_joinThree_3 : decode cL_joinThree 3 = .ok (.aload_n 0, 1) := by decide +kernel
theorem dL_joinThree_4 : decode cL_joinThree 4 = .ok (.iload_n 1, 1) := by decide +kernel
theorem dL_joinThree_5 : decode cL_joinThree 5 = .ok (.iload_n 2, 1) := by decide +kernel
theorem dL_joinThree_6 : decode cL_joinThree 6 = .ok (.iload_n 3, 1) := by decide +kernel
theorem dL_joinThree_7 : decode cL_joinThree 7 = .ok (.iload 4, 2) := by decide +kernel
theorem dL_joinThree_9 : decode cL_joinThree 9 = .ok (.iload 5, 2) := by decide +kernel
theorem dL_joinThree_11 : decode cL_joinThree 11 = .ok (.invokevirtual 129, 3) := by decide +kernel
theorem dL_joinThree_14 : decode cL_joinThree 14 = .ok (.i2l, 1) := by decide +kernel
theorem dL_joinThree_15 : decode cL_joinThree 15 = .ok (.lastore, 1) := by decide +kernel
theorem dL_joinThree_16 : decode cL_joinThree 16 = .ok (.goto 7, 3) := by decide +kernel
theorem dL_joinThree_19 : decode cL_joinThree 19 = .ok (.astore 7, 2) := by decide +kernel
theorem dL_joinThree_21 : decode cL_joinThree 21 = .ok (.iconst 1, 1) := by decide +kernel
theorem dL_joinThree_22 : decode cL_joinThree 22 = .ok (.ireturn, 1) := by decide +kernel
theorem dL_joinThree_23 : decode cL_joinThree 23 = .ok (.iconst 0, 1) := by decide +kernel
theorem dL_joinThree_24 : decode cL_joinThree 24 = .ok (.ireturn, 1) := by decide +kernel
set_option maxRecDepth 20000 in
theorem ggL_next_X6_next : GoodIn wsL_next wsX6_next := goodIn_ca (goodIn_ca (goodIn_ca (goodIn_r _ [7, 8, 9, 10, 6, 11, 12, 13, 14, 15, 16, 17, 18, 19, 20, 21, 22, 23, 24, 25, 26, 27, 28, 29, 30, 31, 32, 33, 34, 35, 36, 37, 38, 39, 40, 41, 42, 43, 44, 45, 46, 47, 48, 49, 50, 51, 52, 53] (by decide +kernel) (by decide +kernel)) (goodIn_sub (fun _ h => List.mem_cons_of_mem _ (List.mem_append_left _ (List.mem_append_right _ h))) (by decide +kernel))) (goodIn_sub (fun _ h => List.mem_cons_of_mem _ (List.mem_append_right _ h)) (by decide +kernel))) (goodIn_sub (fun _ h => List.mem_cons_of_mem _ (List.mem_append_left _ (List.mem_append_left _ (List.mem_append_right _ h)))) (by decide +kernel))
set_option maxRecDepth 20000 in
theorem gL_next_X6_next : GoodIn wsL_next (wsV RL 133 RX6 yX6_next wsX6_next) := goodIn_app (goodIn_of _ (by decide +kernel)) ggL_next_X6_next
theorem dL_next_0 : decode cL_next 0 = .ok (.aload_n 2, 1) := by decide +kernel
theorem dL_next_1 : decode cL_next 1 = .ok (.iconst 0, 1) := by decide +kernel
theorem dL_next_2 : decode cL_next 2 = .ok (.aload_n 0, 1) := by decide +kernel
theorem dL_next_3 : decode cL_next 3 = .ok (.iload_n 1, 1) := by decide +kernel
theorem dL_next_4 : decode cL_next 4 = .ok (.invokevirtual 133, 3) := by decide +kernel
theorem dL_next_7 : decode cL_next 7 = .ok (.i2l, 1) := by decide +kernel
theorem dL_next_8 : decode cL_next 8 = .ok (.lastore, 1) := by decide +kernel
theorem dL_next_9 : decode cL_next 9 = .ok (.goto 9, 3) := by decide +kernel
theorem dL_next_12 : decode cL_next 12 = .ok (.astore_n 3, 1) := by decide +kernel
theorem dL_next_13 : decode cL_next 13 = .ok (.iconst 1, 1) := by decide +kernel
theorem dL_next_14 : decode cL_next 14 = .ok (.ireturn, 1) := by decide +kernel
theorem dL_next_15 : decode cL_next 15 = .ok (.astore_n 3, 1) := by decide +kernel
theorem dL_next_16 : decode cL_next 16 = .ok (.iconst 2, 1) := by decide +kernel
theorem dL_next_17 : decode cL_next 17 = .ok (.ireturn, 1) := by decide +kernel
theorem dL_next_18 : decode cL_next 18 = .ok (.iconst 0, 1) := by decide +kernel
theorem dL_next_19 : decode cL_next 19 = .ok (.ireturn, 1) := by decide +kernel
set_option maxRecDepth 20000 in
theorem ggL_nextPart_X6_nextPart : GoodIn wsL_nextPart wsX6_nextPart := goodIn_ca (goodIn_ca (goodIn_ca (goodIn_ca (goodIn_ca (goodIn_r _ [9, 10, 11, 12, 13, 14, 15, 8, 16, 17, 18, 19, 20, 21, 22, 23, 24, 25, 26, 27, 28, 29, 30, 31, 32, 33, 34, 35, 36, 37, 38, 39, 40, 41, 42, 43, 44, 45, 46, 47, 48, 49, 50, 51, 52, 53, 54, 55, 56, 57, 58, 59, 60, 61, 62, 63, 64, 65, 66, 67, 68, 69, 70, 71, 72, 73, 74, 75, 76, 77, 78, 79] (by decide +kernel) (by decide +kernel)) (goodIn_sub (fun _ h => List.mem_cons_of_mem _ (List.mem_append_left _ (List.mem_append_left _ (List.mem_append_left _ (List.mem_append_right _ h))))) (by decide +kernel))) (goodIn_sub (fun _ h => List.mem_cons_of_mem _ (List.mem_append_left _ (List.mem_append_left _ (List.mem_append_right _ h)))) (by decide +kernel))) (goodIn_sub (fun _ h => List.mem_cons_of_mem _ (List.mem_append_left _ (List.mem_append_right _ h))) (by decide +kernel))) (goodIn_sub (fun _ h => List.mem_cons_of_mem _ (List.mem_append_right _ h)) (by decide +kernel))) (goodIn_sub (fun _ h => List.mem_cons_of_mem _ (List.mem_append_left _ (List.mem_append_left _ (List.mem_append_left _ (List.mem_append_left _ (List.mem_append_right _ h)))))) (by decide +kernel))
set_option maxRecDepth 20000 in
theorem gL_nextPart_X6_nextPart : GoodIn wsL_nextPart (wsV RL 136 RX6 yX6_nextPart wsX6_nextPart) := goodIn_app (goodIn_of _ (by decide +kernel)) ggL_nextPart_X6_nextPart

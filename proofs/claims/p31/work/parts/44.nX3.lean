set_option maxRecDepth 20000 in
theorem ggX3_init_X0_init : GoodIn wsX3_init wsX0_init := goodIn_r _ [20, 21, 2, 3, 22, 23, 24, 25, 26, 6, 27, 28, 29, 30, 31, 32, 33, 34, 35, 36, 37, 38, 39, 40, 41, 42, 43, 44, 45, 46, 65] (by decide +kernel) (by decide +kernel)
set_option maxRecDepth 20000 in
theorem gX3_init_X0_init : GoodIn wsX3_init (wsX0_init) := ggX3_init_X0_init
set_option maxRecDepth 20000 in
theorem ggX3_init_X1_init : GoodIn wsX3_init wsX1_init := goodIn_r _ [49, 50, 2, 3, 51, 52, 53, 54, 55, 56, 57, 58, 22, 59, 71, 72, 73, 74] (by decide +kernel) (by decide +kernel)
set_option maxRecDepth 20000 in
theorem gX3_init_X1_init : GoodIn wsX3_init (wsX1_init) := ggX3_init_X1_init
set_option maxRecDepth 20000 in
theorem ggX3_init_X2_init : GoodIn wsX3_init wsX2_init := goodIn_r _ [61, 62, 2, 3, 63, 64, 75, 76] (by decide +kernel) (by decide +kernel)
set_option maxRecDepth 20000 in
theorem gX3_init_X2_init_n33 : GoodIn wsX3_init (wsX2_init) := ggX3_init_X2_init
theorem dX3_init_0 : decode cX3_init 0 = .ok (.aload_n 0, 1) := by decide +kernel
theorem dX3_init_1 : decode cX3_init 1 = .ok (.invokespecial 3, 3) := by decide +kernel
theorem dX3_init_4 : decode cX3_init 4 = .ok (.aload_n 0, 1) := by decide +kernel
theorem dX3_init_5 : decode cX3_init 5 = .ok (.new 9, 3) := by decide +kernel
theorem dX3_init_8 : decode cX3_init 8 = .ok (.dup, 1) := by decide +kernel
theorem dX3_init_9 : decode cX3_init 9 = .ok (.invokespecial 11, 3) := by decide +kernel
theorem dX3_init_12 : decode cX3_init 12 = .ok (.putfield 12, 3) := by decide +kernel
theorem dX3_init_15 : decode cX3_init 15 = .ok (.aload_n 0, 1) := by decide +kernel
theorem dX3_init_16 : decode cX3_init 16 = .ok (.new 9, 3) := by decide +kernel
theorem dX3_init_19 : decode cX3_init 19 = .ok (.dup, 1) := by decide +kernel
theorem dX3_init_20 : decode cX3_init 20 = .ok (.invokespecial 11, 3) := by decide +kernel
theorem dX3_init_23 : decode cX3_init 23 = .ok (.putfield 16, 3) := by decide +kernel
theorem dX3_init_26 : decode cX3_init 26 = .ok (.aload_n 0, 1) := by decide +kernel
theorem dX3_init_27 : decode cX3_init 27 = .ok (.new 19, 3) := by decide +kernel
theorem dX3_init_30 : decode cX3_init 30 = .ok (.dup, 1) := by decide +kernel
theorem dX3_init_31 : decode cX3_init 31 = .ok (.bipush 6, 2) := by decide +kernel
theorem dX3_init_33 : decode cX3_init 33 = .ok (.invokespecial 21, 3) := by decide +kernel
theorem dX3_init_36 : decode cX3_init 36 = .ok (.putfield 24, 3) := by decide +kernel
theorem dX3_init_39 : decode cX3_init 39 = .ok (.aload_n 0, 1) := by decide +kernel
theorem dX3_init_40 : decode cX3_init 40 = .ok (.new 19, 3) := by decide +kernel
theorem dX3_init_43 : decode cX3_init 43 = .ok (.dup, 1) := by decide +kernel
theorem dX3_init_44 : decode cX3_init 44 = .ok (.iconst 1, 1) := by decide +kernel
theorem dX3_init_45 : decode cX3_init 45 = .ok (.invokespecial 21, 3) := by decide +kernel
theorem dX3_init_48 : decode cX3_init 48 = .ok (.putfield 28, 3) := by decide +kernel
theorem dX3_init_51 : decode cX3_init 51 = .ok (.aload_n 0, 1) := by decide +kernel
theorem dX3_init_52 : decode cX3_init 52 = .ok (.new 31, 3) := by decide +kernel
theorem dX3_init_55 : decode cX3_init 55 = .ok (.dup, 1) := by decide +kernel
theorem dX3_init_56 : decode cX3_init 56 = .ok (.invokespecial 33, 3) := by decide +kernel
theorem dX3_init_59 : decode cX3_init 59 = .ok (.putfield 34, 3) := by decide +kernel
theorem dX3_init_62 : decode cX3_init 62 = .ok (.return_, 1) := by decide +kernel
set_option maxRecDepth 20000 in
theorem ggX3_hearth_X3_requireIndex : GoodIn wsX3_hearth wsX3_requireIndex := goodIn_ca (goodIn_r _ [6, 7, 8] (by decide +kernel) (by decide +kernel)) (goodIn_sub (fun _ h => List.mem_cons_of_mem _ (List.mem_append_left _ (List.mem_append_right _ h))) (by decide +kernel))
set_option maxRecDepth 20000 in
theorem gX3_hearth_X3_requireIndex : GoodIn wsX3_hearth (va_wsS RX3 38 yX3_requireIndex wsX3_requireIndex) := goodIn_app (goodIn_of _ (by decide +kernel)) ggX3_hearth_X3_requireIndex
set_option maxRecDepth 20000 in
theorem ggX3_hearth_X3_requireRange : GoodIn wsX3_hearth wsX3_requireRange := goodIn_ca (goodIn_r _ [11, 12, 13, 5, 14, 15, 16] (by decide +kernel) (by decide +kernel)) (goodIn_sub (fun _ h => List.mem_cons_of_mem _ (List.mem_append_right _ h)) (by decide +kernel))
set_option maxRecDepth 20000 in
theorem gX3_hearth_X3_requireRange : GoodIn wsX3_hearth (va_wsS RX3 42 yX3_requireRange wsX3_requireRange) := goodIn_app (goodIn_of _ (by decide +kernel)) ggX3_hearth_X3_requireRange
set_option maxRecDepth 20000 in
theorem ggX3_hearth_X1_push : GoodIn wsX3_hearth wsX1_push := goodIn_r _ [21, 22, 23, 24, 25, 26, 27, 28, 29, 30, 31, 32, 20, 33, 34, 35, 36, 37, 38, 39, 55, 56, 57, 58, 59] (by decide +kernel) (by decide +kernel)
set_option maxRecDepth 20000 in
theorem gX3_hearth_X1_push : GoodIn wsX3_hearth (wsV RX3 46 RX1 yX1_push wsX1_push) := goodIn_app (goodIn_of _ (by decide +kernel)) ggX3_hearth_X1_push
set_option maxRecDepth 20000 in
theorem ggX3_hearth_X0_put : GoodIn wsX3_hearth wsX0_put := goodIn_r _ [43, 39, 59] (by decide +kernel) (by decide +kernel)
set_option maxRecDepth 20000 in
theorem gX3_hearth_X0_put : GoodIn wsX3_hearth (wsV RX3 50 RX0 yX0_put wsX0_put) := goodIn_app (goodIn_of _ (by decide +kernel)) ggX3_hearth_X0_put
set_option maxRecDepth 20000 in
theorem ggX3_hearth_X0_swap : GoodIn wsX3_hearth wsX0_swap := goodIn_r _ [47, 48, 35, 36, 37, 38, 39, 49, 41, 42, 43, 59] (by decide +kernel) (by decide +kernel)
set_option maxRecDepth 20000 in
theorem gX3_hearth_X0_swap : GoodIn wsX3_hearth (wsV RX3 53 RX0 yX0_swap wsX0_swap) := goodIn_app (goodIn_of _ (by decide +kernel)) ggX3_hearth_X0_swap
theorem dX3_hearth_0 : decode cX3_hearth 0 = .ok (.iload_n 1, 1) := by decide +kernel
theorem dX3_hearth_1 : decode cX3_hearth 1 = .ok (.iconst 5, 1) := by decide +kernel
theorem dX3_hearth_2 : decode cX3_hearth 2 = .ok (.invokestatic 38, 3) := by decide +kernel
theorem dX3_hearth_5 : decode cX3_hearth 5 = .ok (.iload_n 3, 1) := by decide +kernel
theorem dX3_hearth_6 : decode cX3_hearth 6 = .ok (.bipush 50, 2) := by decide +kernel
theorem dX3_hearth_8 : decode cX3_hearth 8 = .ok (.sipush 900, 3) := by decide +kernel
theorem dX3_hearth_11 : decode cX3_hearth 11 = .ok (.invokestatic 42, 3) := by decide +kernel
theorem dX3_hearth_14 : decode cX3_hearth 14 = .ok (.aload_n 0, 1) := by decide +kernel
theorem dX3_hearth_15 : decode cX3_hearth 15 = .ok (.getfield 24, 3) := by decide +kernel
theorem dX3_hearth_18 : decode cX3_hearth 18 = .ok (.aload_n 0, 1) := by decide +kernel
theorem dX3_hearth_19 : decode cX3_hearth 19 = .ok (.getfield 12, 3) := by decide +kernel
theorem dX3_hearth_22 : decode cX3_hearth 22 = .ok (.invokevirtual 46, 3) := by decide +kernel
theorem dX3_hearth_25 : decode cX3_hearth 25 = .ok (.aload_n 0, 1) := by decide +kernel
theorem dX3_hearth_26 : decode cX3_hearth 26 = .ok (.getfield 12, 3) := by decide +kernel
theorem dX3_hearth_29 : decode cX3_hearth 29 = .ok (.iconst 5, 1) := by decide +kernel
theorem dX3_hearth_30 : decode cX3_hearth 30 = .ok (.iload_n 1, 1) := by decide +kernel
theorem dX3_hearth_31 : decode cX3_hearth 31 = .ok (.iadd, 1) := by decide +kernel
theorem dX3_hearth_32 : decode cX3_hearth 32 = .ok (.iload_n 2, 1) := by decide +kernel
theorem dX3_hearth_33 : decode cX3_hearth 33 = .ok (.ifCond .eq 7, 3) := by decide +kernel
theorem dX3_hearth_36 : decode cX3_hearth 36 = .ok (.iconst 1, 1) := by decide +kernel
theorem dX3_hearth_37 : decode cX3_hearth 37 = .ok (.goto 4, 3) := by decide +kernel
theorem dX3_hearth_40 : decode cX3_hearth 40 = .ok (.iconst 0, 1) := by decide +kernel
theorem dX3_hearth_41 : decode cX3_hearth 41 = .ok (.invokevirtual 50, 3) := by decide +kernel
theorem dX3_hearth_44 : decode cX3_hearth 44 = .ok (.aload_n 0, 1) := by decide +kernel
theorem dX3_hearth_45 : decode cX3_hearth 45 = .ok (.getfield 12, 3) := by decide +kernel
theorem dX3_hearth_48 : decode cX3_hearth 48 = .ok (.bipush 10, 2) := by decide +kernel
theorem dX3_hearth_50 : decode cX3_hearth 50 = .ok (.iload_n 1, 1) := by decide +kernel
theorem dX3_hearth_51 : decode cX3_hearth 51 = .ok (.iadd, 1) := by decide +kernel
theorem dX3_hearth_52 : decode cX3_hearth 52 = .ok (.iload_n 3, 1) := by decide +kernel
theorem dX3_hearth_53 : decode cX3_hearth 53 = .ok (.invokevirtual 53, 3) := by decide +kernel
theorem dX3_hearth_56 : decode cX3_hearth 56 = .ok (.ireturn, 1) := by decide +kernel
set_option maxRecDepth 20000 in
theorem ggX3_track_X3_requireIndex : GoodIn wsX3_track wsX3_requireIndex := goodIn_ca (goodIn_r _ [6, 7, 8] (by decide +kernel) (by decide +kernel)) (goodIn_sub (fun _ h => List.mem_cons_of_mem _ (List.mem_append_left _ (List.mem_append_right _ h))) (by decide +kernel))
set_option maxRecDepth 20000 in
theorem gX3_track_X3_requireIndex : GoodIn wsX3_track (va_wsS RX3 38 yX3_requireIndex wsX3_requireIndex) := goodIn_app (goodIn_of _ (by decide +kernel)) ggX3_track_X3_requireIndex
set_option maxRecDepth 20000 in
theorem ggX3_track_X3_requireRange : GoodIn wsX3_track wsX3_requireRange := goodIn_ca (goodIn_r _ [11, 12, 13, 5, 14, 15, 16] (by decide +kernel) (by decide +kernel)) (goodIn_sub (fun _ h => List.mem_cons_of_mem _ (List.mem_append_right _ h)) (by decide +kernel))
set_option maxRecDepth 20000 in
theorem gX3_track_X3_requireRange : GoodIn wsX3_track (va_wsS RX3 42 yX3_requireRange wsX3_requireRange) := goodIn_app (goodIn_of _ (by decide +kernel)) ggX3_track_X3_requireRange
set_option maxRecDepth 20000 in
theorem ggX3_track_X1_push : GoodIn wsX3_track wsX1_push := goodIn_r _ [21, 22, 23, 24, 25, 26, 27, 28, 29, 30, 31, 32, 20, 33, 34, 35, 36, 37, 38, 39, 54, 55, 56, 57, 58] (by decide +kernel) (by decide +kernel)
set_option maxRecDepth 20000 in
theorem gX3_track_X1_push : GoodIn wsX3_track (wsV RX3 46 RX1 yX1_push wsX1_push) := goodIn_app (goodIn_of _ (by decide +kernel)) ggX3_track_X1_push
set_option maxRecDepth 20000 in
theorem ggX3_track_X0_swap : GoodIn wsX3_track wsX0_swap := goodIn_r _ [43, 44, 35, 36, 37, 38, 39, 45, 46, 47, 48, 58] (by decide +kernel) (by decide +kernel)
set_option maxRecDepth 20000 in
theorem gX3_track_X0_swap : GoodIn wsX3_track (wsV RX3 53 RX0 yX0_swap wsX0_swap) := goodIn_app (goodIn_of _ (by decide +kernel)) ggX3_track_X0_swap
theorem dX3_track_0 : decode cX3_track 0 = .ok (.iload_n 1, 1) := by decide +kernel
theorem dX3_track_1 : decode cX3_track 1 = .ok (.iconst 4, 1) := by decide +kernel
theorem dX3_track_2 : decode cX3_track 2 = .ok (.invokestatic 38, 3) := by decide +kernel
theorem dX3_track_5 : decode cX3_track 5 = .ok (.iload_n 2, 1) := by decide +kernel
theorem dX3_track_6 : decode cX3_track 6 = .ok (.bipush 10, 2) := by decide +kernel
theorem dX3_track_8 : decode cX3_track 8 = .ok (.bipush 90, 2) := by decide +kernel
theorem dX3_track_10 : decode cX3_track 10 = .ok (.invokestatic 42, 3) := by decide +kernel
theorem dX3_track_13 : decode cX3_track 13 = .ok (.aload_n 0, 1) := by decide +kernel
theorem dX3_track_14 : decode cX3_track 14 = .ok (.getfield 24, 3) := by decide +kernel
theorem dX3_track_17 : decode cX3_track 17 = .ok (.aload_n 0, 1) := by decide +kernel
theorem dX3_track_18 : decode cX3_track 18 = .ok (.getfield 12, 3) := by decide +kernel
theorem dX3_track_21 : decode cX3_track 21 = .ok (.invokevirtual 46, 3) := by decide +kernel
theorem dX3_track_24 : decode cX3_track 24 = .ok (.aload_n 0, 1) := by decide +kernel
theorem dX3_track_25 : decode cX3_track 25 = .ok (.getfield 12, 3) := by decide +kernel
theorem dX3_track_28 : decode cX3_track 28 = .ok (.bipush 49, 2) := by decide +kernel
theorem dX3_track_30 : decode cX3_track 30 = .ok (.iload_n 1, 1) := by decide +kernel
theorem dX3_track_31 : decode cX3_track 31 = .ok (.iadd, 1) := by decide +kernel
theorem dX3_track_32 : decode cX3_track 32 = .ok (.iload_n 2, 1) := by decide +kernel
theorem dX3_track_33 : decode cX3_track 33 = .ok (.invokevirtual 53, 3) := by decide +kernel
theorem dX3_track_36 : decode cX3_track 36 = .ok (.ireturn, 1) := by decide +kernel
set_option maxRecDepth 20000 in
theorem ggX3_strength_X3_requireIndex : GoodIn wsX3_strength wsX3_requireIndex := goodIn_ca (goodIn_r _ [6, 7, 8] (by decide +kernel) (by decide +kernel)) (goodIn_sub (fun _ h => List.mem_cons_of_mem _ (List.mem_append_left _ (List.mem_append_right _ h))) (by decide +kernel))
set_option maxRecDepth 20000 in
theorem gX3_strength_X3_requireIndex : GoodIn wsX3_strength (va_wsS RX3 38 yX3_requireIndex wsX3_requireIndex) := goodIn_app (goodIn_of _ (by decide +kernel)) ggX3_strength_X3_requireIndex
set_option maxRecDepth 20000 in
theorem ggX3_strength_X3_requireRange : GoodIn wsX3_strength wsX3_requireRange := goodIn_ca (goodIn_r _ [11, 12, 13, 5, 14, 15, 16] (by decide +kernel) (by decide +kernel)) (goodIn_sub (fun _ h => List.mem_cons_of_mem _ (List.mem_append_right _ h)) (by decide +kernel))
set_option maxRecDepth 20000 in
theorem gX3_strength_X3_requireRange : GoodIn wsX3_strength (va_wsS RX3 42 yX3_requireRange wsX3_requireRange) := goodIn_app (goodIn_of _ (by decide +kernel)) ggX3_strength_X3_requireRange
set_option maxRecDepth 20000 in
theorem ggX3_strength_X1_push : GoodIn wsX3_strength wsX1_push := goodIn_r _ [21, 22, 23, 24, 25, 26, 27, 28, 29, 30, 31, 32, 20, 33, 34, 35, 36, 37, 38, 39, 54, 55, 56, 57, 58] (by decide +kernel) (by decide +kernel)
set_option maxRecDepth 20000 in
theorem gX3_strength_X1_push : GoodIn wsX3_strength (wsV RX3 46 RX1 yX1_push wsX1_push) := goodIn_app (goodIn_of _ (by decide +kernel)) ggX3_strength_X1_push
set_option maxRecDepth 20000 in
theorem ggX3_strength_X0_swap : GoodIn wsX3_strength wsX0_swap := goodIn_r _ [43, 44, 35, 36, 37, 38, 39, 45, 46, 47, 48, 58] (by decide +kernel) (by decide +kernel)
set_option maxRecDepth 20000 in
theorem gX3_strength_X0_swap : GoodIn wsX3_strength (wsV RX3 53 RX0 yX0_swap wsX0_swap) := goodIn_app (goodIn_of _ (by decide +kernel)) ggX3_strength_X0_swap
theorem dX3_strength_0 : decode cX3_strength 0 = .ok (.iload_n 1, 1) := by decide +kernel
theorem dX3_strength_1 : decode cX3_strength 1 = .ok (.bipush 6, 2) := by decide +kernel
theorem dX3_strength_3 : decode cX3_strength 3 = .ok (.invokestatic 38, 3) := by decide +kernel
theorem dX3_strength_6 : decode cX3_strength 6 = .ok (.iload_n 2, 1) := by decide +kernel
theorem dX3_strength_7 : decode cX3_strength 7 = .ok (.iconst 5, 1) := by decide +kernel
theorem dX3_strength_8 : decode cX3_strength 8 = .ok (.bipush 40, 2) := by decide +kernel
theorem dX3_strength_10 : decode cX3_strength 10 = .ok (.invokestatic 42, 3) := by decide +kernel
theorem dX3_strength_13 : decode cX3_strength 13 = .ok (.aload_n 0, 1) := by decide +kernel
theorem dX3_strength_14 : decode cX3_strength 14 = .ok (.getfield 24, 3) := by decide +kernel
theorem dX3_strength_17 : decode cX3_strength 17 = .ok (.aload_n 0, 1) := by decide +kernel
theorem dX3_strength_18 : decode cX3_strength 18 = .ok (.getfield 12, 3) := by decide +kernel
theorem dX3_strength_21 : decode cX3_strength 21 = .ok (.invokevirtual 46, 3) := by decide +kernel
theorem dX3_strength_24 : decode cX3_strength 24 = .ok (.aload_n 0, 1) := by decide +kernel
theorem dX3_strength_25 : decode cX3_strength 25 = .ok (.getfield 12, 3) := by decide +kernel
theorem dX3_strength_28 : decode cX3_strength 28 = .ok (.sipush 137, 3) := by decide +kernel
theorem dX3_strength_31 : decode cX3_strength 31 = .ok (.iload_n 1, 1) := by decide +kernel
theorem dX3_strength_32 : decode cX3_strength 32 = .ok (.iadd, 1) := by decide +kernel
theorem dX3_strength_33 : decode cX3_strength 33 = .ok (.iload_n 2, 1) := by decide +kernel
theorem dX3_strength_34 : decode cX3_strength 34 = .ok (.invokevirtual 53, 3) := by decide +kernel
theorem dX3_strength_37 : decode cX3_strength 37 = .ok (.ireturn, 1) := by decide +kernel
set_option maxRecDepth 20000 in
theorem ggX3_work_X3_requireIndex : GoodIn wsX3_work wsX3_requireIndex := goodIn_ca (goodIn_r _ [6, 7, 8] (by decide +kernel) (by decide +kernel)) (goodIn_sub (fun _ h => List.mem_cons_of_mem _ (List.mem_append_left _ (List.mem_append_right _ h))) (by decide +kernel))
set_option maxRecDepth 20000 in
theorem gX3_work_X3_requireIndex : GoodIn wsX3_work (va_wsS RX3 38 yX3_requireIndex wsX3_requireIndex) := goodIn_app (goodIn_of _ (by decide +kernel)) ggX3_work_X3_requireIndex
set_option maxRecDepth 20000 in
theorem ggX3_work_X0_reasonAgainst : GoodIn wsX3_work wsX0_reasonAgainst := goodIn_r _ [13, 14, 15, 12, 16, 17, 18, 19, 20, 21, 22, 23, 24, 25, 63] (by decide +kernel) (by decide +kernel)
set_option maxRecDepth 20000 in
theorem gX3_work_X0_reasonAgainst : GoodIn wsX3_work (wsV RX3 57 RX0 yX0_reasonAgainst wsX0_reasonAgainst) := goodIn_app (goodIn_of _ (by decide +kernel)) ggX3_work_X0_reasonAgainst
set_option maxRecDepth 20000 in
theorem ggX3_work_X3_requireState : GoodIn wsX3_work wsX3_requireState := goodIn_ca (goodIn_r _ [28, 29, 30] (by decide +kernel) (by decide +kernel)) (goodIn_sub (fun _ h => List.mem_cons_of_mem _ (List.mem_append_right _ h)) (by decide +kernel))
set_option maxRecDepth 20000 in
theorem gX3_work_X3_requireState : GoodIn wsX3_work (va_wsS RX3 60 yX3_requireState wsX3_requireState) := goodIn_app (goodIn_of _ (by decide +kernel)) ggX3_work_X3_requireState
set_option maxRecDepth 20000 in
theorem ggX3_work_X1_push : GoodIn wsX3_work wsX1_push := goodIn_r _ [35, 36, 37, 38, 39, 40, 41, 42, 43, 44, 45, 46, 34, 47, 48, 18, 19, 12, 20, 21, 64, 65, 66, 67, 63] (by decide +kernel) (by decide +kernel)
set_option maxRecDepth 20000 in
theorem gX3_work_X1_push : GoodIn wsX3_work (wsV RX3 46 RX1 yX1_push wsX1_push) := goodIn_app (goodIn_of _ (by decide +kernel)) ggX3_work_X1_push
set_option maxRecDepth 20000 in
theorem ggX3_work_X0_setToWork : GoodIn wsX3_work wsX0_setToWork := goodIn_r _ [52, 53, 54, 55, 12, 56, 21, 63] (by decide +kernel) (by decide +kernel)
set_option maxRecDepth 20000 in
theorem gX3_work_X0_setToWork : GoodIn wsX3_work (wsV RX3 64 RX0 yX0_setToWork wsX0_setToWork) := goodIn_app (goodIn_of _ (by decide +kernel)) ggX3_work_X0_setToWork
set_option maxRecDepth 20000 in
theorem ggX3_work_X0_cuttersAt : GoodIn wsX3_work wsX0_cuttersAt := goodIn_r _ [25, 17, 18, 19, 12, 20, 21, 63] (by decide +kernel) (by decide +kernel)
set_option maxRecDepth 20000 in
theorem gX3_work_X0_cuttersAt : GoodIn wsX3_work (wsV RX3 67 RX0 yX0_cuttersAt wsX0_cuttersAt) := goodIn_app (goodIn_of _ (by decide +kernel)) ggX3_work_X0_cuttersAt
theorem dX3_work_0 : decode cX3_work 0 = .ok (.iload_n 1, 1) := by decide +kernel
theorem dX3_work_1 : decode cX3_work 1 = .ok (.bipush 6, 2) := by decide +kernel
theorem dX3_work_3 : decode cX3_work 3 = .ok (.invokestatic 38, 3) := by decide +kernel
theorem dX3_work_6 : decode cX3_work 6 = .ok (.iload_n 2, 1) := by decide +kernel
theorem dX3_work_7 : decode cX3_work 7 = .ok (.iconst 5, 1) := by decide +kernel
theorem dX3_work_8 : decode cX3_work 8 = .ok (.invokestatic 38, 3) := by decide +kernel
theorem dX3_work_11 : decode cX3_work 11 = .ok (.iload_n 3, 1) := by decide +kernel
theorem dX3_work_12 : decode cX3_work 12 = .ok (.iconst 4, 1) := by decide +kernel
theorem dX3_work_13 : decode cX3_work 13 = .ok (.invokestatic 38, 3) := by decide +kernel
theorem dX3_work_16 : decode cX3_work 16 = .ok (.aload_n 0, 1) := by decide +kernel
theorem dX3_work_17 : decode cX3_work 17 = .ok (.getfield 12, 3) := by decide +kernel
theorem dX3_work_20 : decode cX3_work 20 = .ok (.iload_n 2, 1) := by decide +kernel
theorem dX3_work_21 : decode cX3_work 21 = .ok (.iload_n 3, 1) := by decide +kernel
theorem dX3_work_22 : decode cX3_work 22 = .ok (.invokevirtual 57, 3) := by decide +kernel
theorem dX3_work_25 : decode cX3_work 25 = .ok (.ifCond .ne 7, 3) := by decide +kernel
theorem dX3_work_28 : decode cX3_work 28 = .ok (.iconst 1, 1) := by decide +kernel
theorem dX3_work_29 : decode cX3_work 29 = .ok (.goto 4, 3) := by decide +kernel
theorem dX3_work_32 : decode cX3_work 32 = .ok (.iconst 0, 1) := by decide +kernel
theorem dX3_work_33 : decode cX3_work 33 = .ok (.invokestatic 60, 3) := by decide +kernel
theorem dX3_work_36 : decode cX3_work 36 = .ok (.aload_n 0, 1) := by decide +kernel
theorem dX3_work_37 : decode cX3_work 37 = .ok (.getfield 24, 3) := by decide +kernel
theorem dX3_work_40 : decode cX3_work 40 = .ok (.aload_n 0, 1) := by decide +kernel
theorem dX3_work_41 : decode cX3_work 41 = .ok (.getfield 12, 3) := by decide +kernel
theorem dX3_work_44 : decode cX3_work 44 = .ok (.invokevirtual 46, 3) := by decide +kernel
theorem dX3_work_47 : decode cX3_work 47 = .ok (.aload_n 0, 1) := by decide +kernel
theorem dX3_work_48 : decode cX3_work 48 = .ok (.getfield 12, 3) := by decide +kernel
theorem dX3_work_51 : decode cX3_work 51 = .ok (.iload_n 1, 1) := by decide +kernel
theorem dX3_work_52 : decode cX3_work 52 = .ok (.iload_n 2, 1) := by decide +kernel
theorem dX3_work_53 : decode cX3_work 53 = .ok (.iload_n 3, 1) := by decide +kernel
theorem dX3_work_54 : decode cX3_work 54 = .ok (.invokevirtual 64, 3) := by decide +kernel
theorem dX3_work_57 : decode cX3_work 57 = .ok (.aload_n 0, 1) := by decide +kernel
theorem dX3_work_58 : decode cX3_work 58 = .ok (.getfield 12, 3) := by decide +kernel
theorem dX3_work_61 : decode cX3_work 61 = .ok (.iload_n 2, 1) := by decide +kernel
theorem dX3_work_62 : decode cX3_work 62 = .ok (.iload_n 3, 1) := by decide +kernel
theorem dX3_work_63 : decode cX3_work 63 = .ok (.invokevirtual 67, 3) := by decide +kernel
theorem dX3_work_66 : decode cX3_work 66 = .ok (.ireturn, 1) := by decide +kernel
set_option maxRecDepth 20000 in
theorem ggX3_rest_X3_requireIndex : GoodIn wsX3_rest wsX3_requireIndex := goodIn_ca (goodIn_r _ [6, 7, 8] (by decide +kernel) (by decide +kernel)) (goodIn_sub (fun _ h => List.mem_cons_of_mem _ (List.mem_append_right _ h)) (by decide +kernel))
set_option maxRecDepth 20000 in
theorem gX3_rest_X3_requireIndex : GoodIn wsX3_rest (va_wsS RX3 38 yX3_requireIndex wsX3_requireIndex) := goodIn_app (goodIn_of _ (by decide +kernel)) ggX3_rest_X3_requireIndex
set_option maxRecDepth 20000 in
theorem ggX3_rest_X1_push : GoodIn wsX3_rest wsX1_push := goodIn_r _ [13, 14, 15, 16, 17, 18, 19, 20, 21, 22, 23, 24, 12, 25, 26, 27, 28, 29, 30, 31, 62, 63, 64, 65, 66] (by decide +kernel) (by decide +kernel)
set_option maxRecDepth 20000 in
theorem gX3_rest_X1_push : GoodIn wsX3_rest (wsV RX3 46 RX1 yX1_push wsX1_push) := goodIn_app (goodIn_of _ (by decide +kernel)) ggX3_rest_X1_push
set_option maxRecDepth 20000 in
theorem ggX3_rest_X0_letRest : GoodIn wsX3_rest wsX0_letRest := goodIn_r _ [35, 36, 37, 38, 29, 39, 40, 41, 42, 43, 31, 66] (by decide +kernel) (by decide +kernel)
set_option maxRecDepth 20000 in
theorem gX3_rest_X0_letRest : GoodIn wsX3_rest (wsV RX3 70 RX0 yX0_letRest wsX0_letRest) := goodIn_app (goodIn_of _ (by decide +kernel)) ggX3_rest_X0_letRest
set_option maxRecDepth 20000 in
theorem ggX3_rest_X0_cuttersAtWork : GoodIn wsX3_rest wsX0_cuttersAtWork := goodIn_r _ [47, 48, 49, 50, 29, 51, 52, 53, 54, 55, 56, 27, 28, 30, 31, 66] (by decide +kernel) (by decide +kernel)
set_option maxRecDepth 20000 in
theorem gX3_rest_X0_cuttersAtWork : GoodIn wsX3_rest (wsV RX3 73 RX0 yX0_cuttersAtWork wsX0_cuttersAtWork) := goodIn_app (goodIn_of _ (by decide +kernel)) ggX3_rest_X0_cuttersAtWork
theorem dX3_rest_0 : decode cX3_rest 0 = .ok (.iload_n 1, 1) := by decide +kernel
theorem dX3_rest_1 : decode cX3_rest 1 = .ok (.bipush 6, 2) := by decide +kernel
theorem dX3_rest_3 : decode cX3_rest 3 = .ok (.invokestatic 38, 3) := by decide +kernel
theorem dX3_rest_6 : decode cX3_rest 6 = .ok (.aload_n 0, 1) := by decide +kernel
theorem dX3_rest_7 : decode cX3_rest 7 = .ok (.getfield 24, 3) := by decide +kernel
theorem dX3_rest_10 : decode cX3_rest 10 = .ok (.aload_n 0, 1) := by decide +kernel
theorem dX3_rest_11 : decode cX3_rest 11 = .ok (.getfield 12, 3) := by decide +kernel
theorem dX3_rest_14 : decode cX3_rest 14 = .ok (.invokevirtual 46, 3) := by decide +kernel
theorem dX3_rest_17 : decode cX3_rest 17 = .ok (.aload_n 0, 1) := by decide +kernel
theorem dX3_rest_18 : decode cX3_rest 18 = .ok (.getfield 12, 3) := by decide +kernel
theorem dX3_rest_21 : decode cX3_rest 21 = .ok (.iload_n 1, 1) := by decide +kernel
theorem dX3_rest_22 : decode cX3_rest 22 = .ok (.invokevirtual 70, 3) := by decide +kernel
theorem dX3_rest_25 : decode cX3_rest 25 = .ok (.aload_n 0, 1) := by decide +kernel
theorem dX3_rest_26 : decode cX3_rest 26 = .ok (.getfield 12, 3) := by decide +kernel
theorem dX3_rest_29 : decode cX3_rest 29 = .ok (.invokevirtual 73, 3) := by decide +kernel
theorem dX3_rest_32 : decode cX3_rest 32 = .ok (.ireturn, 1) := by decide +kernel
set_option maxRecDepth 20000 in
theorem ggX3_give_X3_requireHolder : GoodIn wsX3_give wsX3_requireHolder := goodIn_ca (goodIn_r _ [6, 7, 8, 5, 9, 10, 11] (by decide +kernel) (by decide +kernel)) (goodIn_sub (fun _ h => List.mem_cons_of_mem _ (List.mem_append_left _ (List.mem_append_left _ (List.mem_append_right _ h)))) (by decide +kernel))
set_option maxRecDepth 20000 in
theorem gX3_give_X3_requireHolder : GoodIn wsX3_give (va_wsS RX3 77 yX3_requireHolder wsX3_requireHolder) := goodIn_app (goodIn_of _ (by decide +kernel)) ggX3_give_X3_requireHolder
set_option maxRecDepth 20000 in
theorem ggX3_give_X3_requireIndex : GoodIn wsX3_give wsX3_requireIndex := goodIn_ca (goodIn_r _ [9, 10, 11] (by decide +kernel) (by decide +kernel)) (goodIn_sub (fun _ h => List.mem_cons_of_mem _ (List.mem_append_left _ (List.mem_append_left _ (List.mem_append_right _ h)))) (by decide +kernel))
set_option maxRecDepth 20000 in
theorem gX3_give_X3_requireIndex : GoodIn wsX3_give (va_wsS RX3 38 yX3_requireIndex wsX3_requireIndex) := goodIn_app (goodIn_of _ (by decide +kernel)) ggX3_give_X3_requireIndex
set_option maxRecDepth 20000 in
theorem ggX3_give_X3_requireRange : GoodIn wsX3_give wsX3_requireRange := goodIn_ca (goodIn_r _ [14, 15, 16, 5, 17, 18, 19] (by decide +kernel) (by decide +kernel)) (goodIn_sub (fun _ h => List.mem_cons_of_mem _ (List.mem_append_left _ (List.mem_append_right _ h))) (by decide +kernel))
set_option maxRecDepth 20000 in
theorem gX3_give_X3_requireRange : GoodIn wsX3_give (va_wsS RX3 42 yX3_requireRange wsX3_requireRange) := goodIn_app (goodIn_of _ (by decide +kernel)) ggX3_give_X3_requireRange
set_option maxRecDepth 20000 in
theorem ggX3_give_X3_requireArgument : GoodIn wsX3_give wsX3_requireArgument := goodIn_ca (goodIn_r _ [17, 18, 19] (by decide +kernel) (by decide +kernel)) (goodIn_sub (fun _ h => List.mem_cons_of_mem _ (List.mem_append_left _ (List.mem_append_right _ h))) (by decide +kernel))
set_option maxRecDepth 20000 in
theorem gX3_give_X3_requireArgument : GoodIn wsX3_give (va_wsS RX3 80 yX3_requireArgument wsX3_requireArgument) := goodIn_app (goodIn_of _ (by decide +kernel)) ggX3_give_X3_requireArgument
set_option maxRecDepth 20000 in
theorem ggX3_give_X0_sharesPlace : GoodIn wsX3_give wsX0_sharesPlace := goodIn_r _ [23, 24, 25, 22, 26] (by decide +kernel) (by decide +kernel)
set_option maxRecDepth 20000 in
theorem gX3_give_X0_sharesPlace : GoodIn wsX3_give (va_wsS RX3 83 yX0_sharesPlace wsX0_sharesPlace) := goodIn_app (goodIn_of _ (by decide +kernel)) ggX3_give_X0_sharesPlace
set_option maxRecDepth 20000 in
theorem ggX3_give_X0_at : GoodIn wsX3_give wsX0_at := goodIn_r _ [30, 31, 69] (by decide +kernel) (by decide +kernel)
set_option maxRecDepth 20000 in
theorem gX3_give_X0_at : GoodIn wsX3_give (wsV RX3 86 RX0 yX0_at wsX0_at) := goodIn_app (goodIn_of _ (by decide +kernel)) ggX3_give_X0_at
set_option maxRecDepth 20000 in
theorem ggX3_give_X3_requireState : GoodIn wsX3_give wsX3_requireState := goodIn_ca (goodIn_r _ [34, 35, 36] (by decide +kernel) (by decide +kernel)) (goodIn_sub (fun _ h => List.mem_cons_of_mem _ (List.mem_append_right _ h)) (by decide +kernel))
set_option maxRecDepth 20000 in
theorem gX3_give_X3_requireState : GoodIn wsX3_give (va_wsS RX3 60 yX3_requireState wsX3_requireState) := goodIn_app (goodIn_of _ (by decide +kernel)) ggX3_give_X3_requireState
set_option maxRecDepth 20000 in
theorem ggX3_give_X1_push : GoodIn wsX3_give wsX1_push := goodIn_r _ [41, 42, 43, 44, 45, 46, 47, 48, 49, 50, 51, 52, 40, 53, 54, 28, 29, 22, 30, 31, 70, 71, 72, 73, 69] (by decide +kernel) (by decide +kernel)
set_option maxRecDepth 20000 in
theorem gX3_give_X1_push : GoodIn wsX3_give (wsV RX3 46 RX1 yX1_push wsX1_push) := goodIn_app (goodIn_of _ (by decide +kernel)) ggX3_give_X1_push
set_option maxRecDepth 20000 in
theorem ggX3_give_X0_add : GoodIn wsX3_give wsX0_add := goodIn_r _ [58, 59, 28, 29, 22, 30, 31, 60, 61, 62, 63, 69] (by decide +kernel) (by decide +kernel)
set_option maxRecDepth 20000 in
theorem gX3_give_X0_add : GoodIn wsX3_give (wsV RX3 90 RX0 yX0_add wsX0_add) := goodIn_app (goodIn_of _ (by decide +kernel)) ggX3_give_X0_add
theorem dX3_give_0 : decode cX3_give 0 = .ok (.iload_n 1, 1) := by decide +kernel
theorem dX3_give_1 : decode cX3_give 1 = .ok (.invokestatic 77, 3) := by decide +kernel
theorem dX3_give_4 : decode cX3_give 4 = .ok (.iload_n 2, 1) := by decide +kernel
theorem dX3_give_5 : decode cX3_give 5 = .ok (.invokestatic 77, 3) := by decide +kernel
theorem dX3_give_8 : decode cX3_give 8 = .ok (.iload_n 3, 1) := by decide +kernel
theorem dX3_give_9 : decode cX3_give 9 = .ok (.iconst 4, 1) := by decide +kernel
theorem dX3_give_10 : decode cX3_give 10 = .ok (.invokestatic 38, 3) := by decide +kernel
theorem dX3_give_13 : decode cX3_give 13 = .ok (.iload 4, 2) := by decide +kernel
theorem dX3_give_15 : decode cX3_give 15 = .ok (.iconst 1, 1) := by decide +kernel
theorem dX3_give_16 : decode cX3_give 16 = .ok (.bipush 12, 2) := by decide +kernel
theorem dX3_give_18 : decode cX3_give 18 = .ok (.invokestatic 42, 3) := by decide +kernel
theorem dX3_give_21 : decode cX3_give 21 = .ok (.iload_n 1, 1) := by decide +kernel
theorem dX3_give_22 : decode cX3_give 22 = .ok (.iload_n 2, 1) := by decide +kernel
theorem dX3_give_23 : decode cX3_give 23 = .ok (.if_icmp .eq 7, 3) := by decide +kernel
theorem dX3_give_26 : decode cX3_give 26 = .ok (.iconst 1, 1) := by decide +kernel
theorem dX3_give_27 : decode cX3_give 27 = .ok (.goto 4, 3) := by decide +kernel
theorem dX3_give_30 : decode cX3_give 30 = .ok (.iconst 0, 1) := by decide +kernel
theorem dX3_give_31 : decode cX3_give 31 = .ok (.invokestatic 80, 3) := by decide +kernel
theorem dX3_give_34 : decode cX3_give 34 = .ok (.iload_n 1, 1) := by decide +kernel
theorem dX3_give_35 : decode cX3_give 35 = .ok (.iload_n 3, 1) := by decide +kernel
theorem dX3_give_36 : decode cX3_give 36 = .ok (.invokestatic 83, 3) := by decide +kernel
theorem dX3_give_39 : decode cX3_give 39 = .ok (.istore 5, 2) := by decide +kernel
theorem dX3_give_41 : decode cX3_give 41 = .ok (.iload_n 2, 1) := by decide +kernel
theorem dX3_give_42 : decode cX3_give 42 = .ok (.iload_n 3, 1) := by decide +kernel
theorem dX3_give_43 : decode cX3_give 43 = .ok (.invokestatic 83, 3) := by decide +kernel
theorem dX3_give_46 : decode cX3_give 46 = .ok (.istore 6, 2) := by decide +kernel
theorem dX3_give_48 : decode cX3_give 48 = .ok (.aload_n 0, 1) := by decide +kernel
theorem dX3_give_49 : decode cX3_give 49 = .ok (.getfield 12, 3) := by decide +kernel
theorem dX3_give_52 : decode cX3_give 52 = .ok (.iload 5, 2) := by decide +kernel
theorem dX3_give_54 : decode cX3_give 54 = .ok (.invokevirtual 86, 3) := by decide +kernel
theorem dX3_give_57 : decode cX3_give 57 = .ok (.iload 4, 2) := by decide +kernel
theorem dX3_give_59 : decode cX3_give 59 = .ok (.if_icmp .lt 7, 3) := by decide +kernel
theorem dX3_give_62 : decode cX3_give 62 = .ok (.iconst 1, 1) := by decide +kernel
theorem dX3_give_63 : decode cX3_give 63 = .ok (.goto 4, 3) := by decide +kernel
theorem dX3_give_66 : decode cX3_give 66 = .ok (.iconst 0, 1) := by decide +kernel
theorem dX3_give_67 : decode cX3_give 67 = .ok (.invokestatic 60, 3) := by decide +kernel
theorem dX3_give_70 : decode cX3_give 70 = .ok (.aload_n 0, 1) := by decide +kernel
theorem dX3_give_71 : decode cX3_give 71 = .ok (.getfield 24, 3) := by decide +kernel
theorem dX3_give_74 : decode cX3_give 74 = .ok (.aload_n 0, 1) := by decide +kernel
theorem dX3_give_75 : decode cX3_give 75 = .ok (.getfield 12, 3) := by decide +kernel
theorem dX3_give_78 : decode cX3_give 78 = .ok (.invokevirtual 46, 3) := by decide +kernel
theorem dX3_give_81 : decode cX3_give 81 = .ok (.aload_n 0, 1) := by decide +kernel
theorem dX3_give_82 : decode cX3_give 82 = .ok (.getfield 12, 3) := by decide +kernel
theorem dX3_give_85 : decode cX3_give 85 = .ok (.iload 5, 2) := by decide +kernel
theorem dX3_give_87 : decode cX3_give 87 = .ok (.iload 4, 2) := by decide +kernel
theorem dX3_give_89 : decode cX3_give 89 = .ok (.ineg, 1) := by decide +kernel
theorem dX3_give_90 : decode cX3_give 90 = .ok (.invokevirtual 90, 3) := by decide +kernel
theorem dX3_give_93 : decode cX3_give 93 = .ok (.aload_n 0, 1) := by decide +kernel
theorem dX3_give_94 : decode cX3_give 94 = .ok (.getfield 12, 3) := by decide +kernel
theorem dX3_give_97 : decode cX3_give 97 = .ok (.iload 6, 2) := by decide +kernel
theorem dX3_give_99 : decode cX3_give 99 = .ok (.iload 4, 2) := by decide +kernel
theorem dX3_give_101 : decode cX3_give 101 = .ok (.invokevirtual 90, 3) := by decide +kernel
theorem dX3_give_104 : decode cX3_give 104 = .ok (.aload_n 0, 1) := by decide +kernel
theorem dX3_give_105 : decode cX3_give 105 = .ok (.getfield 12, 3) := by decide +kernel
theorem dX3_give_108 : decode cX3_give 108 = .ok (.iload 6, 2) := by decide +kernel
theorem dX3_give_110 : decode cX3_give 110 = .ok (.invokevirtual 86, 3) := by decide +kernel
theorem dX3_give_113 : decode cX3_give 113 = .ok (.ireturn, 1) := by decide +kernel
set_option maxRecDepth 20000 in
theorem ggX3_snow_X1_push : GoodIn wsX3_snow wsX1_push := goodIn_r _ [7, 8, 9, 10, 11, 12, 13, 14, 15, 16, 17, 18, 6, 19, 20, 21, 22, 23, 24, 25, 49, 50, 51, 52, 53] (by decide +kernel) (by decide +kernel)
set_option maxRecDepth 20000 in
theorem gX3_snow_X1_push : GoodIn wsX3_snow (wsV RX3 46 RX1 yX1_push wsX1_push) := goodIn_app (goodIn_of _ (by decide +kernel)) ggX3_snow_X1_push
set_option maxRecDepth 20000 in
theorem ggX3_snow_X0_turnSnow : GoodIn wsX3_snow wsX0_turnSnow := goodIn_r _ [29, 30, 21, 22, 23, 24, 25, 31, 32, 33, 34, 35, 36, 37, 38, 39, 40, 41, 42, 53] (by decide +kernel) (by decide +kernel)
set_option maxRecDepth 20000 in
theorem gX3_snow_X0_turnSnow : GoodIn wsX3_snow (wsV RX3 93 RX0 yX0_turnSnow wsX0_turnSnow) := goodIn_app (goodIn_of _ (by decide +kernel)) ggX3_snow_X0_turnSnow
set_option maxRecDepth 20000 in
theorem ggX3_snow_X0_at : GoodIn wsX3_snow wsX0_at := goodIn_r _ [24, 25, 53] (by decide +kernel) (by decide +kernel)
set_option maxRecDepth 20000 in
theorem gX3_snow_X0_at : GoodIn wsX3_snow (wsV RX3 86 RX0 yX0_at wsX0_at) := goodIn_app (goodIn_of _ (by decide +kernel)) ggX3_snow_X0_at
theorem dX3_snow_0 : decode cX3_snow 0 = .ok (.aload_n 0, 1) := by decide +kernel
theorem dX3_snow_1 : decode cX3_snow 1 = .ok (.getfield 24, 3) := by decide +kernel
theorem dX3_snow_4 : decode cX3_snow 4 = .ok (.aload_n 0, 1) := by decide +kernel
theorem dX3_snow_5 : decode cX3_snow 5 = .ok (.getfield 12, 3) := by decide +kernel
theorem dX3_snow_8 : decode cX3_snow 8 = .ok (.invokevirtual 46, 3) := by decide +kernel
theorem dX3_snow_11 : decode cX3_snow 11 = .ok (.aload_n 0, 1) := by decide +kernel
theorem dX3_snow_12 : decode cX3_snow 12 = .ok (.getfield 12, 3) := by decide +kernel
theorem dX3_snow_15 : decode cX3_snow 15 = .ok (.invokevirtual 93, 3) := by decide +kernel
theorem dX3_snow_18 : decode cX3_snow 18 = .ok (.aload_n 0, 1) := by decide +kernel
theorem dX3_snow_19 : decode cX3_snow 19 = .ok (.getfield 12, 3) := by decide +kernel
theorem dX3_snow_22 : decode cX3_snow 22 = .ok (.iconst 1, 1) := by decide +kernel
theorem dX3_snow_23 : decode cX3_snow 23 = .ok (.invokevirtual 86, 3) := by decide +kernel
theorem dX3_snow_26 : decode cX3_snow 26 = .ok (.ireturn, 1) := by decide +kernel
set_option maxRecDepth 20000 in
theorem ggX3_pass_X3_requireRange : GoodIn wsX3_pass wsX3_requireRange := goodIn_ca (goodIn_r _ [6, 7, 8, 5, 9, 10, 11] (by decide +kernel) (by decide +kernel)) (goodIn_sub (fun _ h => List.mem_cons_of_mem _ (List.mem_append_right _ h)) (by decide +kernel))
set_option maxRecDepth 20000 in
theorem gX3_pass_X3_requireRange : GoodIn wsX3_pass (va_wsS RX3 42 yX3_requireRange wsX3_requireRange) := goodIn_app (goodIn_of _ (by decide +kernel)) ggX3_pass_X3_requireRange
set_option maxRecDepth 20000 in
theorem ggX3_pass_X1_push : GoodIn wsX3_pass wsX1_push := goodIn_r _ [16, 17, 18, 19, 20, 21, 22, 23, 24, 25, 26, 27, 15, 28, 29, 30, 31, 32, 33, 34, 104, 105, 106, 107, 108] (by decide +kernel) (by decide +kernel)
set_option maxRecDepth 20000 in
theorem gX3_pass_X1_push : GoodIn wsX3_pass (wsV RX3 46 RX1 yX1_push wsX1_push) := goodIn_app (goodIn_of _ (by decide +kernel)) ggX3_pass_X1_push
set_option maxRecDepth 20000 in
theorem ggX3_pass_X0_passDays : GoodIn wsX3_pass wsX0_passDays := goodIn_r _ [38, 39, 40, 41, 32, 42, 43, 30, 31, 33, 34, 44, 45, 46, 47, 48, 49, 50, 51, 52, 53, 54, 55, 56, 57, 58, 59, 60, 61, 62, 63, 64, 65, 66, 67, 21, 22, 23, 68, 69, 70, 71, 72, 73, 74, 75, 76, 77, 78, 79, 80, 81, 82, 83, 84, 85, 86, 87, 88, 89, 90, 91, 92, 93, 94, 95, 96, 97, 98, 108] (by decide +kernel) (by decide +kernel)
set_option maxRecDepth 20000 in
theorem gX3_pass_X0_passDays : GoodIn wsX3_pass (wsV RX3 96 RX0 yX0_passDays wsX0_passDays) := goodIn_app (goodIn_of _ (by decide +kernel)) ggX3_pass_X0_passDays
theorem dX3_pass_0 : decode cX3_pass 0 = .ok (.iload_n 1, 1) := by decide +kernel
theorem dX3_pass_1 : decode cX3_pass 1 = .ok (.iconst 1, 1) := by decide +kernel
theorem dX3_pass_2 : decode cX3_pass 2 = .ok (.bipush 60, 2) := by decide +kernel
theorem dX3_pass_4 : decode cX3_pass 4 = .ok (.invokestatic 42, 3) := by decide +kernel
theorem dX3_pass_7 : decode cX3_pass 7 = .ok (.aload_n 0, 1) := by decide +kernel
theorem dX3_pass_8 : decode cX3_pass 8 = .ok (.getfield 24, 3) := by decide +kernel
theorem dX3_pass_11 : decode cX3_pass 11 = .ok (.aload_n 0, 1) := by decide +kernel
theorem dX3_pass_12 : decode cX3_pass 12 = .ok (.getfield 12, 3) := by decide +kernel
theorem dX3_pass_15 : decode cX3_pass 15 = .ok (.invokevirtual 46, 3) := by decide +kernel
theorem dX3_pass_18 : decode cX3_pass 18 = .ok (.aload_n 0, 1) := by decide +kernel
theorem dX3_pass_19 : decode cX3_pass 19 = .ok (.getfield 12, 3) := by decide +kernel
theorem dX3_pass_22 : decode cX3_pass 22 = .ok (.iload_n 1, 1) := by decide +kernel
theorem dX3_pass_23 : decode cX3_pass 23 = .ok (.invokevirtual 96, 3) := by decide +kernel
theorem dX3_pass_26 : decode cX3_pass 26 = .ok (.ireturn, 1) := by decide +kernel
set_option maxRecDepth 20000 in
theorem ggX3_set_X3_requireIndex : GoodIn wsX3_set wsX3_requireIndex := goodIn_ca (goodIn_r _ [8, 9, 10] (by decide +kernel) (by decide +kernel)) (goodIn_sub (fun _ h => List.mem_cons_of_mem _ (List.mem_append_left _ (List.mem_append_right _ h))) (by decide +kernel))
set_option maxRecDepth 20000 in
theorem gX3_set_X3_requireIndex : GoodIn wsX3_set (va_wsS RX3 38 yX3_requireIndex wsX3_requireIndex) := goodIn_app (goodIn_of _ (by decide +kernel)) ggX3_set_X3_requireIndex
set_option maxRecDepth 20000 in
theorem ggX3_set_X3_requireRange : GoodIn wsX3_set wsX3_requireRange := goodIn_ca (goodIn_r _ [13, 14, 15, 7, 16, 17, 18] (by decide +kernel) (by decide +kernel)) (goodIn_sub (fun _ h => List.mem_cons_of_mem _ (List.mem_append_right _ h)) (by decide +kernel))
set_option maxRecDepth 20000 in
theorem gX3_set_X3_requireRange : GoodIn wsX3_set (va_wsS RX3 42 yX3_requireRange wsX3_requireRange) := goodIn_app (goodIn_of _ (by decide +kernel)) ggX3_set_X3_requireRange
set_option maxRecDepth 20000 in
theorem ggX3_set_X1_push : GoodIn wsX3_set wsX1_push := goodIn_r _ [23, 24, 25, 26, 27, 28, 29, 30, 31, 32, 33, 34, 22, 35, 36, 37, 38, 39, 40, 41, 56, 57, 58, 59, 60] (by decide +kernel) (by decide +kernel)
set_option maxRecDepth 20000 in
theorem gX3_set_X1_push : GoodIn wsX3_set (wsV RX3 46 RX1 yX1_push wsX1_push) := goodIn_app (goodIn_of _ (by decide +kernel)) ggX3_set_X1_push
set_option maxRecDepth 20000 in
theorem ggX3_set_X0_swap : GoodIn wsX3_set wsX0_swap := goodIn_r _ [45, 46, 37, 38, 39, 40, 41, 47, 48, 49, 50, 60] (by decide +kernel) (by decide +kernel)
set_option maxRecDepth 20000 in
theorem gX3_set_X0_swap : GoodIn wsX3_set (wsV RX3 53 RX0 yX0_swap wsX0_swap) := goodIn_app (goodIn_of _ (by decide +kernel)) ggX3_set_X0_swap
theorem dX3_set_0 : decode cX3_set 0 = .ok (.iload_n 1, 1) := by decide +kernel
theorem dX3_set_1 : decode cX3_set 1 = .ok (.iconst 3, 1) := by decide +kernel
theorem dX3_set_2 : decode cX3_set 2 = .ok (.invokestatic 38, 3) := by decide +kernel
theorem dX3_set_5 : decode cX3_set 5 = .ok (.iload_n 2, 1) := by decide +kernel
theorem dX3_set_6 : decode cX3_set 6 = .ok (.getstatic 99, 3) := by decide +kernel
theorem dX3_set_9 : decode cX3_set 9 = .ok (.iload_n 1, 1) := by decide +kernel
theorem dX3_set_10 : decode cX3_set 10 = .ok (.iaload, 1) := by decide +kernel
theorem dX3_set_11 : decode cX3_set 11 = .ok (.getstatic 103, 3) := by decide +kernel
theorem dX3_set_14 : decode cX3_set 14 = .ok (.iload_n 1, 1) := by decide +kernel
theorem dX3_set_15 : decode cX3_set 15 = .ok (.iaload, 1) := by decide +kernel
theorem dX3_set_16 : decode cX3_set 16 = .ok (.invokestatic 42, 3) := by decide +kernel
theorem dX3_set_19 : decode cX3_set 19 = .ok (.aload_n 0, 1) := by decide +kernel
theorem dX3_set_20 : decode cX3_set 20 = .ok (.getfield 24, 3) := by decide +kernel
theorem dX3_set_23 : decode cX3_set 23 = .ok (.aload_n 0, 1) := by decide +kernel
theorem dX3_set_24 : decode cX3_set 24 = .ok (.getfield 12, 3) := by decide +kernel
theorem dX3_set_27 : decode cX3_set 27 = .ok (.invokevirtual 46, 3) := by decide +kernel
theorem dX3_set_30 : decode cX3_set 30 = .ok (.aload_n 0, 1) := by decide +kernel
theorem dX3_set_31 : decode cX3_set 31 = .ok (.getfield 12, 3) := by decide +kernel
theorem dX3_set_34 : decode cX3_set 34 = .ok (.iconst 2, 1) := by decide +kernel
theorem dX3_set_35 : decode cX3_set 35 = .ok (.iload_n 1, 1) := by decide +kernel
theorem dX3_set_36 : decode cX3_set 36 = .ok (.iadd, 1) := by decide +kernel
theorem dX3_set_37 : decode cX3_set 37 = .ok (.iload_n 2, 1) := by decide +kernel
theorem dX3_set_38 : decode cX3_set 38 = .ok (.invokevirtual 53, 3) := by decide +kernel
theorem dX3_set_41 : decode cX3_set 41 = .ok (.ireturn, 1) := by decide +kernel
set_option maxRecDepth 20000 in
theorem ggX3_undo_X1_size : GoodIn wsX3_undo wsX1_size := goodIn_r _ [7, 8, 45, 46, 47, 48] (by decide +kernel) (by decide +kernel)
set_option maxRecDepth 20000 in
theorem gX3_undo_X1_size : GoodIn wsX3_undo (wsV RX3 129 RX1 yX1_size wsX1_size) := goodIn_app (goodIn_of _ (by decide +kernel)) ggX3_undo_X1_size
set_option maxRecDepth 20000 in
theorem ggX3_undo_X3_requireState : GoodIn wsX3_undo wsX3_requireState := goodIn_ca (goodIn_r _ [12, 13, 14] (by decide +kernel) (by decide +kernel)) (goodIn_sub (fun _ h => List.mem_cons_of_mem _ (List.mem_append_right _ h)) (by decide +kernel))
set_option maxRecDepth 20000 in
theorem gX3_undo_X3_requireState : GoodIn wsX3_undo (va_wsS RX3 60 yX3_requireState wsX3_requireState) := goodIn_app (goodIn_of _ (by decide +kernel)) ggX3_undo_X3_requireState
set_option maxRecDepth 20000 in
theorem ggX3_undo_X1_showTop : GoodIn wsX3_undo wsX1_showTop := goodIn_r _ [18, 19, 20, 21, 22, 23, 6, 24, 25, 26, 27, 28, 29, 30, 45, 46, 47, 48, 49] (by decide +kernel) (by decide +kernel)
set_option maxRecDepth 20000 in
theorem gX3_undo_X1_showTop : GoodIn wsX3_undo (wsV RX3 132 RX1 yX1_showTop wsX1_showTop) := goodIn_app (goodIn_of _ (by decide +kernel)) ggX3_undo_X1_showTop
set_option maxRecDepth 20000 in
theorem ggX3_undo_X1_dropTop : GoodIn wsX3_undo wsX1_dropTop := goodIn_r _ [34, 19, 35, 8, 36, 37, 38, 39, 45, 46, 47, 48] (by decide +kernel) (by decide +kernel)
set_option maxRecDepth 20000 in
theorem gX3_undo_X1_dropTop : GoodIn wsX3_undo (wsV RX3 135 RX1 yX1_dropTop wsX1_dropTop) := goodIn_app (goodIn_of _ (by decide +kernel)) ggX3_undo_X1_dropTop
theorem dX3_undo_0 : decode cX3_undo 0 = .ok (.aload_n 0, 1) := by decide +kernel
theorem dX3_undo_1 : decode cX3_undo 1 = .ok (.getfield 24, 3) := by decide +kernel
theorem dX3_undo_4 : decode cX3_undo 4 = .ok (.invokevirtual 129, 3) := by decide +kernel
theorem dX3_undo_7 : decode cX3_undo 7 = .ok (.ifCond .le 7, 3) := by decide +kernel
theorem dX3_undo_10 : decode cX3_undo 10 = .ok (.iconst 1, 1) := by decide +kernel
theorem dX3_undo_11 : decode cX3_undo 11 = .ok (.goto 4, 3) := by decide +kernel
theorem dX3_undo_14 : decode cX3_undo 14 = .ok (.iconst 0, 1) := by decide +kernel
theorem dX3_undo_15 : decode cX3_undo 15 = .ok (.invokestatic 60, 3) := by decide +kernel
theorem dX3_undo_18 : decode cX3_undo 18 = .ok (.aload_n 0, 1) := by decide +kernel
theorem dX3_undo_19 : decode cX3_undo 19 = .ok (.getfield 24, 3) := by decide +kernel
theorem dX3_undo_22 : decode cX3_undo 22 = .ok (.aload_n 0, 1) := by decide +kernel
theorem dX3_undo_23 : decode cX3_undo 23 = .ok (.getfield 12, 3) := by decide +kernel
theorem dX3_undo_26 : decode cX3_undo 26 = .ok (.invokevirtual 132, 3) := by decide +kernel
theorem dX3_undo_29 : decode cX3_undo 29 = .ok (.aload_n 0, 1) := by decide +kernel
theorem dX3_undo_30 : decode cX3_undo 30 = .ok (.getfield 24, 3) := by decide +kernel
theorem dX3_undo_33 : decode cX3_undo 33 = .ok (.invokevirtual 135, 3) := by decide +kernel
theorem dX3_undo_36 : decode cX3_undo 36 = .ok (.aload_n 0, 1) := by decide +kernel
theorem dX3_undo_37 : decode cX3_undo 37 = .ok (.getfield 24, 3) := by decide +kernel
theorem dX3_undo_40 : decode cX3_undo 40 = .ok (.invokevirtual 129, 3) := by decide +kernel
theorem dX3_undo_43 : decode cX3_undo 43 = .ok (.ireturn, 1) := by decide +kernel
set_option maxRecDepth 20000 in
theorem ggX3_hearthOf_X3_requireIndex : GoodIn wsX3_hearthOf wsX3_requireIndex := goodIn_ca (goodIn_r _ [5, 6, 7] (by decide +kernel) (by decide +kernel)) (goodIn_sub (fun _ h => List.mem_cons_of_mem _ (List.mem_append_left _ (List.mem_append_right _ h))) (by decide +kernel))
set_option maxRecDepth 20000 in
theorem gX3_hearthOf_X3_requireIndex : GoodIn wsX3_hearthOf (va_wsS RX3 38 yX3_requireIndex wsX3_requireIndex) := goodIn_app (goodIn_of _ (by decide +kernel)) ggX3_hearthOf_X3_requireIndex
set_option maxRecDepth 20000 in
theorem ggX3_hearthOf_X3_requireRange : GoodIn wsX3_hearthOf wsX3_requireRange := goodIn_ca (goodIn_r _ [10, 11, 12, 4, 13, 14, 15] (by decide +kernel) (by decide +kernel)) (goodIn_sub (fun _ h => List.mem_cons_of_mem _ (List.mem_append_right _ h)) (by decide +kernel))
set_option maxRecDepth 20000 in
theorem gX3_hearthOf_X3_requireRange : GoodIn wsX3_hearthOf (va_wsS RX3 42 yX3_requireRange wsX3_requireRange) := goodIn_app (goodIn_of _ (by decide +kernel)) ggX3_hearthOf_X3_requireRange
set_option maxRecDepth 20000 in
theorem ggX3_hearthOf_X0_ofHearth : GoodIn wsX3_hearthOf wsX0_ofHearth := goodIn_r _ [20, 21, 22, 23, 19, 24, 25, 26, 27, 28, 29, 30, 31, 32, 33, 34, 35, 36, 37, 38, 39, 40, 41, 42, 43, 44, 45, 46, 47, 48, 54] (by decide +kernel) (by decide +kernel)
set_option maxRecDepth 20000 in
theorem gX3_hearthOf_X0_ofHearth : GoodIn wsX3_hearthOf (wsV RX3 138 RX0 yX0_ofHearth wsX0_ofHearth) := goodIn_app (goodIn_of _ (by decide +kernel)) ggX3_hearthOf_X0_ofHearth
theorem dX3_hearthOf_0 : decode cX3_hearthOf 0 = .ok (.iload_n 1, 1) := by decide +kernel
theorem dX3_hearthOf_1 : decode cX3_hearthOf 1 = .ok (.iconst 5, 1) := by decide +kernel
theorem dX3_hearthOf_2 : decode cX3_hearthOf 2 = .ok (.invokestatic 38, 3) := by decide +kernel
theorem dX3_hearthOf_5 : decode cX3_hearthOf 5 = .ok (.iload_n 2, 1) := by decide +kernel
theorem dX3_hearthOf_6 : decode cX3_hearthOf 6 = .ok (.iconst 0, 1) := by decide +kernel
theorem dX3_hearthOf_7 : decode cX3_hearthOf 7 = .ok (.bipush 11, 2) := by decide +kernel
theorem dX3_hearthOf_9 : decode cX3_hearthOf 9 = .ok (.invokestatic 42, 3) := by decide +kernel
theorem dX3_hearthOf_12 : decode cX3_hearthOf 12 = .ok (.aload_n 0, 1) := by decide +kernel
theorem dX3_hearthOf_13 : decode cX3_hearthOf 13 = .ok (.getfield 12, 3) := by decide +kernel
theorem dX3_hearthOf_16 : decode cX3_hearthOf 16 = .ok (.iload_n 1, 1) := by decide +kernel
theorem dX3_hearthOf_17 : decode cX3_hearthOf 17 = .ok (.iload_n 2, 1) := by decide +kernel
theorem dX3_hearthOf_18 : decode cX3_hearthOf 18 = .ok (.invokevirtual 138, 3) := by decide +kernel
theorem dX3_hearthOf_21 : decode cX3_hearthOf 21 = .ok (.ireturn, 1) := by decide +kernel
set_option maxRecDepth 20000 in
theorem ggX3_bankOf_X3_requireIndex : GoodIn wsX3_bankOf wsX3_requireIndex := goodIn_ca (goodIn_r _ [5, 6, 7] (by decide +kernel) (by decide +kernel)) (goodIn_sub (fun _ h => List.mem_cons_of_mem _ (List.mem_append_left _ (List.mem_append_right _ h))) (by decide +kernel))
set_option maxRecDepth 20000 in
theorem gX3_bankOf_X3_requireIndex : GoodIn wsX3_bankOf (va_wsS RX3 38 yX3_requireIndex wsX3_requireIndex) := goodIn_app (goodIn_of _ (by decide +kernel)) ggX3_bankOf_X3_requireIndex
set_option maxRecDepth 20000 in
theorem ggX3_bankOf_X3_requireRange : GoodIn wsX3_bankOf wsX3_requireRange := goodIn_ca (goodIn_r _ [10, 11, 12, 4, 13, 14, 15] (by decide +kernel) (by decide +kernel)) (goodIn_sub (fun _ h => List.mem_cons_of_mem _ (List.mem_append_right _ h)) (by decide +kernel))
set_option maxRecDepth 20000 in
theorem gX3_bankOf_X3_requireRange : GoodIn wsX3_bankOf (va_wsS RX3 42 yX3_requireRange wsX3_requireRange) := goodIn_app (goodIn_of _ (by decide +kernel)) ggX3_bankOf_X3_requireRange
set_option maxRecDepth 20000 in
theorem ggX3_bankOf_X0_ofBank : GoodIn wsX3_bankOf wsX0_ofBank := goodIn_r _ [20, 21, 22, 23, 19, 24, 25, 26, 27, 28, 29, 30, 31, 32, 33, 34, 35, 36, 37, 38, 39, 40, 46] (by decide +kernel) (by decide +kernel)
set_option maxRecDepth 20000 in
theorem gX3_bankOf_X0_ofBank : GoodIn wsX3_bankOf (wsV RX3 141 RX0 yX0_ofBank wsX0_ofBank) := goodIn_app (goodIn_of _ (by decide +kernel)) ggX3_bankOf_X0_ofBank
theorem dX3_bankOf_0 : decode cX3_bankOf 0 = .ok (.iload_n 1, 1) := by decide +kernel
theorem dX3_bankOf_1 : decode cX3_bankOf 1 = .ok (.iconst 4, 1) := by decide +kernel
theorem dX3_bankOf_2 : decode cX3_bankOf 2 = .ok (.invokestatic 38, 3) := by decide +kernel
theorem dX3_bankOf_5 : decode cX3_bankOf 5 = .ok (.iload_n 2, 1) := by decide +kernel
theorem dX3_bankOf_6 : decode cX3_bankOf 6 = .ok (.iconst 0, 1) := by decide +kernel
theorem dX3_bankOf_7 : decode cX3_bankOf 7 = .ok (.iconst 4, 1) := by decide +kernel
theorem dX3_bankOf_8 : decode cX3_bankOf 8 = .ok (.invokestatic 42, 3) := by decide +kernel
theorem dX3_bankOf_11 : decode cX3_bankOf 11 = .ok (.aload_n 0, 1) := by decide +kernel
theorem dX3_bankOf_12 : decode cX3_bankOf 12 = .ok (.getfield 12, 3) := by decide +kernel
theorem dX3_bankOf_15 : decode cX3_bankOf 15 = .ok (.iload_n 1, 1) := by decide +kernel
theorem dX3_bankOf_16 : decode cX3_bankOf 16 = .ok (.iload_n 2, 1) := by decide +kernel
theorem dX3_bankOf_17 : decode cX3_bankOf 17 = .ok (.invokevirtual 141, 3) := by decide +kernel
theorem dX3_bankOf_20 : decode cX3_bankOf 20 = .ok (.ireturn, 1) := by decide +kernel
set_option maxRecDepth 20000 in
theorem ggX3_plot_X3_requireIndex : GoodIn wsX3_plot wsX3_requireIndex := goodIn_ca (goodIn_r _ [5, 6, 7] (by decide +kernel) (by decide +kernel)) (goodIn_sub (fun _ h => List.mem_cons_of_mem _ (List.mem_append_left _ (List.mem_append_right _ h))) (by decide +kernel))
set_option maxRecDepth 20000 in
theorem gX3_plot_X3_requireIndex : GoodIn wsX3_plot (va_wsS RX3 38 yX3_requireIndex wsX3_requireIndex) := goodIn_app (goodIn_of _ (by decide +kernel)) ggX3_plot_X3_requireIndex
set_option maxRecDepth 20000 in
theorem ggX3_plot_X3_requireRange : GoodIn wsX3_plot wsX3_requireRange := goodIn_ca (goodIn_r _ [10, 11, 12, 4, 13, 14, 15] (by decide +kernel) (by decide +kernel)) (goodIn_sub (fun _ h => List.mem_cons_of_mem _ (List.mem_append_right _ h)) (by decide +kernel))
set_option maxRecDepth 20000 in
theorem gX3_plot_X3_requireRange : GoodIn wsX3_plot (va_wsS RX3 42 yX3_requireRange wsX3_requireRange) := goodIn_app (goodIn_of _ (by decide +kernel)) ggX3_plot_X3_requireRange
set_option maxRecDepth 20000 in
theorem ggX3_plot_X0_ofPlot : GoodIn wsX3_plot wsX0_ofPlot := goodIn_r _ [20, 21, 22, 19, 23, 24, 25, 26, 27, 28, 29, 30, 31, 32, 38] (by decide +kernel) (by decide +kernel)
set_option maxRecDepth 20000 in
theorem gX3_plot_X0_ofPlot : GoodIn wsX3_plot (wsV RX3 144 RX0 yX0_ofPlot wsX0_ofPlot) := goodIn_app (goodIn_of _ (by decide +kernel)) ggX3_plot_X0_ofPlot
theorem dX3_plot_0 : decode cX3_plot 0 = .ok (.iload_n 1, 1) := by decide +kernel
theorem dX3_plot_1 : decode cX3_plot 1 = .ok (.iconst 5, 1) := by decide +kernel
theorem dX3_plot_2 : decode cX3_plot 2 = .ok (.invokestatic 38, 3) := by decide +kernel
theorem dX3_plot_5 : decode cX3_plot 5 = .ok (.iload_n 2, 1) := by decide +kernel
theorem dX3_plot_6 : decode cX3_plot 6 = .ok (.iconst 4, 1) := by decide +kernel
theorem dX3_plot_7 : decode cX3_plot 7 = .ok (.invokestatic 38, 3) := by decide +kernel
theorem dX3_plot_10 : decode cX3_plot 10 = .ok (.iload_n 3, 1) := by decide +kernel
theorem dX3_plot_11 : decode cX3_plot 11 = .ok (.iconst 0, 1) := by decide +kernel
theorem dX3_plot_12 : decode cX3_plot 12 = .ok (.iconst 4, 1) := by decide +kernel
theorem dX3_plot_13 : decode cX3_plot 13 = .ok (.invokestatic 42, 3) := by decide +kernel
theorem dX3_plot_16 : decode cX3_plot 16 = .ok (.aload_n 0, 1) := by decide +kernel
theorem dX3_plot_17 : decode cX3_plot 17 = .ok (.getfield 12, 3) := by decide +kernel
theorem dX3_plot_20 : decode cX3_plot 20 = .ok (.iload_n 1, 1) := by decide +kernel
theorem dX3_plot_21 : decode cX3_plot 21 = .ok (.iload_n 2, 1) := by decide +kernel
theorem dX3_plot_22 : decode cX3_plot 22 = .ok (.iload_n 3, 1) := by decide +kernel
theorem dX3_plot_23 : decode cX3_plot 23 = .ok (.invokevirtual 144, 3) := by decide +kernel
theorem dX3_plot_26 : decode cX3_plot 26 = .ok (.ireturn, 1) := by decide +kernel
set_option maxRecDepth 20000 in
theorem ggX3_cutter_X3_requireIndex : GoodIn wsX3_cutter wsX3_requireIndex := goodIn_ca (goodIn_r _ [5, 6, 7] (by decide +kernel) (by decide +kernel)) (goodIn_sub (fun _ h => List.mem_cons_of_mem _ (List.mem_append_left _ (List.mem_append_right _ h))) (by decide +kernel))
set_option maxRecDepth 20000 in
theorem gX3_cutter_X3_requireIndex : GoodIn wsX3_cutter (va_wsS RX3 38 yX3_requireIndex wsX3_requireIndex) := goodIn_app (goodIn_of _ (by decide +kernel)) ggX3_cutter_X3_requireIndex
set_option maxRecDepth 20000 in
theorem ggX3_cutter_X3_requireRange : GoodIn wsX3_cutter wsX3_requireRange := goodIn_ca (goodIn_r _ [10, 11, 12, 4, 13, 14, 15] (by decide +kernel) (by decide +kernel)) (goodIn_sub (fun _ h => List.mem_cons_of_mem _ (List.mem_append_right _ h)) (by decide +kernel))
set_option maxRecDepth 20000 in
theorem gX3_cutter_X3_requireRange : GoodIn wsX3_cutter (va_wsS RX3 42 yX3_requireRange wsX3_requireRange) := goodIn_app (goodIn_of _ (by decide +kernel)) ggX3_cutter_X3_requireRange
set_option maxRecDepth 20000 in
theorem ggX3_cutter_X0_ofCutter : GoodIn wsX3_cutter wsX0_ofCutter := goodIn_r _ [20, 21, 22, 23, 19, 24, 25, 31] (by decide +kernel) (by decide +kernel)
set_option maxRecDepth 20000 in
theorem gX3_cutter_X0_ofCutter : GoodIn wsX3_cutter (wsV RX3 148 RX0 yX0_ofCutter wsX0_ofCutter) := goodIn_app (goodIn_of _ (by decide +kernel)) ggX3_cutter_X0_ofCutter
theorem dX3_cutter_0 : decode cX3_cutter 0 = .ok (.iload_n 1, 1) := by decide +kernel
theorem dX3_cutter_1 : decode cX3_cutter 1 = .ok (.bipush 6, 2) := by decide +kernel
theorem dX3_cutter_3 : decode cX3_cutter 3 = .ok (.invokestatic 38, 3) := by decide +kernel
theorem dX3_cutter_6 : decode cX3_cutter 6 = .ok (.iload_n 2, 1) := by decide +kernel
theorem dX3_cutter_7 : decode cX3_cutter 7 = .ok (.iconst 0, 1) := by decide +kernel
theorem dX3_cutter_8 : decode cX3_cutter 8 = .ok (.iconst 3, 1) := by decide +kernel
theorem dX3_cutter_9 : decode cX3_cutter 9 = .ok (.invokestatic 42, 3) := by decide +kernel
theorem dX3_cutter_12 : decode cX3_cutter 12 = .ok (.aload_n 0, 1) := by decide +kernel
theorem dX3_cutter_13 : decode cX3_cutter 13 = .ok (.getfield 12, 3) := by decide +kernel
theorem dX3_cutter_16 : decode cX3_cutter 16 = .ok (.iload_n 1, 1) := by decide +kernel
theorem dX3_cutter_17 : decode cX3_cutter 17 = .ok (.iload_n 2, 1) := by decide +kernel
theorem dX3_cutter_18 : decode cX3_cutter 18 = .ok (.invokevirtual 148, 3) := by decide +kernel
theorem dX3_cutter_21 : decode cX3_cutter 21 = .ok (.ireturn, 1) := by decide +kernel
set_option maxRecDepth 20000 in
theorem ggX3_rain_X3_requireArgument : GoodIn wsX3_rain wsX3_requireArgument := goodIn_ca (goodIn_r _ [5, 6, 7] (by decide +kernel) (by decide +kernel)) (goodIn_sub (fun _ h => List.mem_cons_of_mem _ (List.mem_append_right _ h)) (by decide +kernel))
set_option maxRecDepth 20000 in
theorem gX3_rain_X3_requireArgument : GoodIn wsX3_rain (va_wsS RX3 80 yX3_requireArgument wsX3_requireArgument) := goodIn_app (goodIn_of _ (by decide +kernel)) ggX3_rain_X3_requireArgument
set_option maxRecDepth 20000 in
theorem ggX3_rain_X0_rainOf : GoodIn wsX3_rain wsX0_rainOf := goodIn_r _ [12, 13, 14, 15, 16, 17, 18, 19, 11, 20, 21, 27] (by decide +kernel) (by decide +kernel)
set_option maxRecDepth 20000 in
theorem gX3_rain_X0_rainOf : GoodIn wsX3_rain (wsV RX3 151 RX0 yX0_rainOf wsX0_rainOf) := goodIn_app (goodIn_of _ (by decide +kernel)) ggX3_rain_X0_rainOf
theorem dX3_rain_0 : decode cX3_rain 0 = .ok (.iload_n 1, 1) := by decide +kernel
theorem dX3_rain_1 : decode cX3_rain 1 = .ok (.ifCond .lt 7, 3) := by decide +kernel
theorem dX3_rain_4 : decode cX3_rain 4 = .ok (.iconst 1, 1) := by decide +kernel
theorem dX3_rain_5 : decode cX3_rain 5 = .ok (.goto 4, 3) := by decide +kernel
theorem dX3_rain_8 : decode cX3_rain 8 = .ok (.iconst 0, 1) := by decide +kernel
theorem dX3_rain_9 : decode cX3_rain 9 = .ok (.invokestatic 80, 3) := by decide +kernel
theorem dX3_rain_12 : decode cX3_rain 12 = .ok (.aload_n 0, 1) := by decide +kernel
theorem dX3_rain_13 : decode cX3_rain 13 = .ok (.getfield 12, 3) := by decide +kernel
theorem dX3_rain_16 : decode cX3_rain 16 = .ok (.iload_n 1, 1) := by decide +kernel
theorem dX3_rain_17 : decode cX3_rain 17 = .ok (.invokevirtual 151, 3) := by decide +kernel
theorem dX3_rain_20 : decode cX3_rain 20 = .ok (.ireturn, 1) := by decide +kernel
set_option maxRecDepth 20000 in
theorem ggX3_count_X3_requireRange : GoodIn wsX3_count wsX3_requireRange := goodIn_ca (goodIn_r _ [6, 7, 8, 5, 9, 10, 11] (by decide +kernel) (by decide +kernel)) (goodIn_sub (fun _ h => List.mem_cons_of_mem _ (List.mem_append_right _ h)) (by decide +kernel))
set_option maxRecDepth 20000 in
theorem gX3_count_X3_requireRange : GoodIn wsX3_count (va_wsS RX3 42 yX3_requireRange wsX3_requireRange) := goodIn_app (goodIn_of _ (by decide +kernel)) ggX3_count_X3_requireRange
set_option maxRecDepth 20000 in
theorem ggX3_count_X1_size : GoodIn wsX3_count wsX1_size := goodIn_r _ [16, 17, 80, 81, 82, 83] (by decide +kernel) (by decide +kernel)
set_option maxRecDepth 20000 in
theorem gX3_count_X1_size : GoodIn wsX3_count (wsV RX3 129 RX1 yX1_size wsX1_size) := goodIn_app (goodIn_of _ (by decide +kernel)) ggX3_count_X1_size
set_option maxRecDepth 20000 in
theorem ggX3_count_X0_ofAll : GoodIn wsX3_count wsX0_ofAll := goodIn_r _ [22, 23, 24, 25, 21, 26, 27, 28, 29, 30, 31, 32, 33, 34, 35, 36, 37, 38, 39, 40, 41, 42, 43, 44, 45, 46, 47, 48, 49, 50, 51, 52, 53, 54, 55, 56, 57, 58, 59, 60, 61, 62, 63, 64, 65, 66, 67, 68, 69, 70, 71, 72, 73, 74, 84] (by decide +kernel) (by decide +kernel)
set_option maxRecDepth 20000 in
theorem gX3_count_X0_ofAll : GoodIn wsX3_count (wsV RX3 154 RX0 yX0_ofAll wsX0_ofAll) := goodIn_app (goodIn_of _ (by decide +kernel)) ggX3_count_X0_ofAll
theorem dX3_count_0 : decode cX3_count 0 = .ok (.iload_n 1, 1) := by decide +kernel
theorem dX3_count_1 : decode cX3_count 1 = .ok (.iconst 0, 1) := by decide +kernel
theorem dX3_count_2 : decode cX3_count 2 = .ok (.bipush 12, 2) := by decide +kernel
theorem dX3_count_4 : decode cX3_count 4 = .ok (.invokestatic 42, 3) := by decide +kernel
theorem dX3_count_7 : decode cX3_count 7 = .ok (.iload_n 1, 1) := by decide +kernel
theorem dX3_count_8 : decode cX3_count 8 = .ok (.bipush 12, 2) := by decide +kernel
theorem dX3_count_10 : decode cX3_count 10 = .ok (.if_icmp .ne 13, 3) := by decide +kernel
theorem dX3_count_13 : decode cX3_count 13 = .ok (.aload_n 0, 1) := by decide +kernel
theorem dX3_count_14 : decode cX3_count 14 = .ok (.getfield 24, 3) := by decide +kernel
theorem dX3_count_17 : decode cX3_count 17 = .ok (.invokevirtual 129, 3) := by decide +kernel
theorem dX3_count_20 : decode cX3_count 20 = .ok (.goto 11, 3) := by decide +kernel
theorem dX3_count_23 : decode cX3_count 23 = .ok (.aload_n 0, 1) := by decide +kernel
theorem dX3_count_24 : decode cX3_count 24 = .ok (.getfield 12, 3) := by decide +kernel
theorem dX3_count_27 : decode cX3_count 27 = .ok (.iload_n 1, 1) := by decide +kernel
theorem dX3_count_28 : decode cX3_count 28 = .ok (.invokevirtual 154, 3) := by decide +kernel
theorem dX3_count_31 : decode cX3_count 31 = .ok (.ireturn, 1) := by decide +kernel
set_option maxRecDepth 20000 in
theorem ggX3_whyNot_X3_requireIndex : GoodIn wsX3_whyNot wsX3_requireIndex := goodIn_ca (goodIn_r _ [5, 6, 7] (by decide +kernel) (by decide +kernel)) (goodIn_sub (fun _ h => List.mem_cons_of_mem _ (List.mem_append_right _ h)) (by decide +kernel))
set_option maxRecDepth 20000 in
theorem gX3_whyNot_X3_requireIndex : GoodIn wsX3_whyNot (va_wsS RX3 38 yX3_requireIndex wsX3_requireIndex) := goodIn_app (goodIn_of _ (by decide +kernel)) ggX3_whyNot_X3_requireIndex
set_option maxRecDepth 20000 in
theorem ggX3_whyNot_X0_reasonAgainst : GoodIn wsX3_whyNot wsX0_reasonAgainst := goodIn_r _ [12, 13, 14, 11, 15, 16, 17, 18, 19, 20, 21, 22, 23, 24, 30] (by decide +kernel) (by decide +kernel)
set_option maxRecDepth 20000 in
theorem gX3_whyNot_X0_reasonAgainst : GoodIn wsX3_whyNot (wsV RX3 57 RX0 yX0_reasonAgainst wsX0_reasonAgainst) := goodIn_app (goodIn_of _ (by decide +kernel)) ggX3_whyNot_X0_reasonAgainst
theorem dX3_whyNot_0 : decode cX3_whyNot 0 = .ok (.iload_n 1, 1) := by decide +kernel
theorem dX3_whyNot_1 : decode cX3_whyNot 1 = .ok (.bipush 6, 2) := by decide +kernel
theorem dX3_whyNot_3 : decode cX3_whyNot 3 = .ok (.invokestatic 38, 3) := by decide +kernel
theorem dX3_whyNot_6 : decode cX3_whyNot 6 = .ok (.iload_n 2, 1) := by decide +kernel
theorem dX3_whyNot_7 : decode cX3_whyNot 7 = .ok (.iconst 5, 1) := by decide +kernel
theorem dX3_whyNot_8 : decode cX3_whyNot 8 = .ok (.invokestatic 38, 3) := by decide +kernel
theorem dX3_whyNot_11 : decode cX3_whyNot 11 = .ok (.iload_n 3, 1) := by decide +kernel
theorem dX3_whyNot_12 : decode cX3_whyNot 12 = .ok (.iconst 4, 1) := by decide +kernel
theorem dX3_whyNot_13 : decode cX3_whyNot 13 = .ok (.invokestatic 38, 3) := by decide +kernel
theorem dX3_whyNot_16 : decode cX3_whyNot 16 = .ok (.aload_n 0, 1) := by decide +kernel
theorem dX3_whyNot_17 : decode cX3_whyNot 17 = .ok (.getfield 12, 3) := by decide +kernel
theorem dX3_whyNot_20 : decode cX3_whyNot 20 = .ok (.iload_n 2, 1) := by decide +kernel
theorem dX3_whyNot_21 : decode cX3_whyNot 21 = .ok (.iload_n 3, 1) := by decide +kernel
theorem dX3_whyNot_22 : decode cX3_whyNot 22 = .ok (.invokevirtual 57, 3) := by decide +kernel
theorem dX3_whyNot_25 : decode cX3_whyNot 25 = .ok (.ireturn, 1) := by decide +kernel
set_option maxRecDepth 20000 in
theorem ggX3_dryness_X0_turvesOnBanks : GoodIn wsX3_dryness wsX0_turvesOnBanks := goodIn_r _ [6, 7, 8, 9, 5, 10, 11, 12, 13, 14, 15, 25] (by decide +kernel) (by decide +kernel)
set_option maxRecDepth 20000 in
theorem gX3_dryness_X0_turvesOnBanks : GoodIn wsX3_dryness (wsV RX3 169 RX0 yX0_turvesOnBanks wsX0_turvesOnBanks) := goodIn_app (goodIn_of _ (by decide +kernel)) ggX3_dryness_X0_turvesOnBanks
set_option maxRecDepth 20000 in
theorem ggX3_dryness_X0_sum : GoodIn wsX3_dryness wsX0_sum := goodIn_r _ [19, 11, 12, 13, 5, 14, 15, 25] (by decide +kernel) (by decide +kernel)
set_option maxRecDepth 20000 in
theorem gX3_dryness_X0_sum : GoodIn wsX3_dryness (wsV RX3 163 RX0 yX0_sum wsX0_sum) := goodIn_app (goodIn_of _ (by decide +kernel)) ggX3_dryness_X0_sum
theorem dX3_dryness_0 : decode cX3_dryness 0 = .ok (.aload_n 0, 1) := by decide +kernel
theorem dX3_dryness_1 : decode cX3_dryness 1 = .ok (.getfield 12, 3) := by decide +kernel
theorem dX3_dryness_4 : decode cX3_dryness 4 = .ok (.invokevirtual 169, 3) := by decide +kernel
theorem dX3_dryness_7 : decode cX3_dryness 7 = .ok (.istore_n 1, 1) := by decide +kernel
theorem dX3_dryness_8 : decode cX3_dryness 8 = .ok (.iload_n 1, 1) := by decide +kernel
theorem dX3_dryness_9 : decode cX3_dryness 9 = .ok (.ifCond .ne 5, 3) := by decide +kernel
theorem dX3_dryness_12 : decode cX3_dryness 12 = .ok (.dconst 1, 1) := by decide +kernel
theorem dX3_dryness_13 : decode cX3_dryness 13 = .ok (.dreturn, 1) := by decide +kernel
theorem dX3_dryness_14 : decode cX3_dryness 14 = .ok (.aload_n 0, 1) := by decide +kernel
theorem dX3_dryness_15 : decode cX3_dryness 15 = .ok (.getfield 12, 3) := by decide +kernel
theorem dX3_dryness_18 : decode cX3_dryness 18 = .ok (.bipush 117, 2) := by decide +kernel
theorem dX3_dryness_20 : decode cX3_dryness 20 = .ok (.bipush 20, 2) := by decide +kernel
theorem dX3_dryness_22 : decode cX3_dryness 22 = .ok (.invokevirtual 163, 3) := by decide +kernel
theorem dX3_dryness_25 : decode cX3_dryness 25 = .ok (.i2d, 1) := by decide +kernel
theorem dX3_dryness_26 : decode cX3_dryness 26 = .ok (.iload_n 1, 1) := by decide +kernel
theorem dX3_dryness_27 : decode cX3_dryness 27 = .ok (.i2d, 1) := by decide +kernel
theorem dX3_dryness_28 : decode cX3_dryness 28 = .ok (.ddiv, 1) := by decide +kernel
theorem dX3_dryness_29 : decode cX3_dryness 29 = .ok (.dreturn, 1) := by decide +kernel
theorem dX3_requireIndex_0 : decode cX3_requireIndex 0 = .ok (.iload_n 0, 1) := by decide +kernel
theorem dX3_requireIndex_1 : decode cX3_requireIndex 1 = .ok (.ifCond .lt 8, 3) := by decide +kernel
theorem dX3_requireIndex_4 : decode cX3_requireIndex 4 = .ok (.iload_n 0, 1) := by decide +kernel
theorem dX3_requireIndex_5 : decode cX3_requireIndex 5 = .ok (.iload_n 1, 1) := by decide +kernel
theorem dX3_requireIndex_6 : decode cX3_requireIndex 6 = .ok (.if_icmp .lt 13, 3) := by decide +kernel
theorem dX3_requireIndex_9 : decode cX3_requireIndex 9 = .ok (.new 224, 3) := by decide +kernel
theorem dX3_requireIndex_12 : decode cX3_requireIndex 12 = .ok (.dup, 1) := by decide +kernel
theorem dX3_requireIndex_13 : decode cX3_requireIndex 13 = .ok (.ldc 226, 2) := by decide +kernel
theorem dX3_requireIndex_15 : decode cX3_requireIndex 15 = .ok (.invokespecial 228, 3) := by decide +kernel
theorem dX3_requireIndex_18 : decode cX3_requireIndex 18 = .ok (.athrow, 1) := by decide +kernel
theorem dX3_requireIndex_19 : decode cX3_requireIndex 19 = .ok (.return_, 1) := by decide +kernel
set_option maxRecDepth 20000 in
theorem ggX3_requireHolder_X3_requireIndex : GoodIn wsX3_requireHolder wsX3_requireIndex := goodIn_ca (goodIn_r _ [4, 5, 6] (by decide +kernel) (by decide +kernel)) (goodIn_sub (fun _ h => List.mem_cons_of_mem _ (List.mem_append_right _ h)) (by decide +kernel))
set_option maxRecDepth 20000 in
theorem gX3_requireHolder_X3_requireIndex : GoodIn wsX3_requireHolder (va_wsS RX3 38 yX3_requireIndex wsX3_requireIndex) := goodIn_app (goodIn_of _ (by decide +kernel)) ggX3_requireHolder_X3_requireIndex
theorem dX3_requireHolder_0 : decode cX3_requireHolder 0 = .ok (.iload_n 0, 1) := by decide +kernel
theorem dX3_requireHolder_1 : decode cX3_requireHolder 1 = .ok (.iconst (-1), 1) := by decide +kernel
theorem dX3_requireHolder_2 : decode cX3_requireHolder 2 = .ok (.if_icmp .eq 8, 3) := by decide +kernel
theorem dX3_requireHolder_5 : decode cX3_requireHolder 5 = .ok (.iload_n 0, 1) := by decide +kernel
theorem dX3_requireHolder_6 : decode cX3_requireHolder 6 = .ok (.iconst 5, 1) := by decide +kernel
theorem dX3_requireHolder_7 : decode cX3_requireHolder 7 = .ok (.invokestatic 38, 3) := by decide +kernel
theorem dX3_requireHolder_10 : decode cX3_requireHolder 10 = .ok (.return_, 1) := by decide +kernel
set_option maxRecDepth 20000 in
theorem ggX3_requireRange_X3_requireArgument : GoodIn wsX3_requireRange wsX3_requireArgument := goodIn_ca (goodIn_r _ [4, 5, 6] (by decide +kernel) (by decide +kernel)) (goodIn_sub (fun _ h => List.mem_cons_of_mem _ (List.mem_append_right _ h)) (by decide +kernel))
set_option maxRecDepth 20000 in
theorem gX3_requireRange_X3_requireArgument : GoodIn wsX3_requireRange (va_wsS RX3 80 yX3_requireArgument wsX3_requireArgument) := goodIn_app (goodIn_of _ (by decide +kernel)) ggX3_requireRange_X3_requireArgument
theorem dX3_requireRange_0 : decode cX3_requireRange 0 = .ok (.iload_n 0, 1) := by decide +kernel
theorem dX3_requireRange_1 : decode cX3_requireRange 1 = .ok (.iload_n 1, 1) := by decide +kernel
theorem dX3_requireRange_2 : decode cX3_requireRange 2 = .ok (.if_icmp .lt 12, 3) := by decide +kernel
theorem dX3_requireRange_5 : decode cX3_requireRange 5 = .ok (.iload_n 0, 1) := by decide +kernel
theorem dX3_requireRange_6 : decode cX3_requireRange 6 = .ok (.iload_n 2, 1) := by decide +kernel
theorem dX3_requireRange_7 : decode cX3_requireRange 7 = .ok (.if_icmp .gt 7, 3) := by decide +kernel
theorem dX3_requireRange_10 : decode cX3_requireRange 10 = .ok (.iconst 1, 1) := by decide +kernel
theorem dX3_requireRange_11 : decode cX3_requireRange 11 = .ok (.goto 4, 3) := by decide +kernel
theorem dX3_requireRange_14 : decode cX3_requireRange 14 = .ok (.iconst 0, 1) := by decide +kernel
theorem dX3_requireRange_15 : decode cX3_requireRange 15 = .ok (.invokestatic 80, 3) := by decide +kernel
theorem dX3_requireRange_18 : decode cX3_requireRange 18 = .ok (.return_, 1) := by decide +kernel
theorem dX3_requireArgument_0 : decode cX3_requireArgument 0 = .ok (.iload_n 0, 1) := by decide +kernel
theorem dX3_requireArgument_1 : decode cX3_requireArgument 1 = .ok (.ifCond .ne 13, 3) := by decide +kernel
theorem dX3_requireArgument_4 : decode cX3_requireArgument 4 = .ok (.new 231, 3) := by decide +kernel
theorem dX3_requireArgument_7 : decode cX3_requireArgument 7 = .ok (.dup, 1) := by decide +kernel
theorem dX3_requireArgument_8 : decode cX3_requireArgument 8 = .ok (.ldc 233, 2) := by decide +kernel
theorem dX3_requireArgument_10 : decode cX3_requireArgument 10 = .ok (.invokespecial 235, 3) := by decide +kernel
theorem dX3_requireArgument_13 : decode cX3_requireArgument 13 = .ok (.athrow, 1) := by decide +kernel
theorem dX3_requireArgument_14 : decode cX3_requireArgument 14 = .ok (.return_, 1) := by decide +kernel
theorem dX3_requireState_0 : decode cX3_requireState 0 = .ok (.iload_n 0, 1) := by decide +kernel
theorem dX3_requireState_1 : decode cX3_requireState 1 = .ok (.ifCond .ne 13, 3) := by decide +kernel
theorem dX3_requireState_4 : decode cX3_requireState 4 = .ok (.new 236, 3) := by decide +kernel
theorem dX3_requireState_7 : decode cX3_requireState 7 = .ok (.dup, 1) := by decide +kernel
theorem dX3_requireState_8 : decode cX3_requireState 8 = .ok (.ldc 238, 2) := by decide +kernel
theorem dX3_requireState_10 : decode cX3_requireState 10 = .ok (.invokespecial 240, 3) := by decide +kernel
theorem dX3_requireState_13 : decode cX3_requireState 13 = .ok (.athrow, 1) := by decide +kernel
theorem dX3_requireState_14 : decode cX3_requireState 14 = .ok (.return_, 1) := by decide +kernel

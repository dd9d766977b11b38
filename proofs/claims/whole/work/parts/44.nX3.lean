set_option maxRecDepth 20000 in
theorem ggX3_init_X0_init : GoodIn wsX3_init wsX0_init := goodIn_r _ [20, 21, 2, 3, 22, 23, 24, 25, 26, 6, 27, 28, 29, 30, 31, 32, 33, 34, 35, 36, 37, 38, 39, 40, 41, 42, 43, 44, 45, 46, 65] (by decide +kernel) (by decide +kernel)
set_option maxRecDepth 20000 in
theorem gX3_init_X0_init : GoodIn wsX3_init (wsX0_init) := ggX3_init_X0_init
set_option maxRecDepth 20000 in
theorem ggX3_init_X1_init : GoodIn wsX3_init wsX1_init := goodIn_r _ [49, 50, 2, 3, 51, 52, 53, 54, 55, 56, 57, 58, 22, 59, 71, 72, 73, 74] (by decide +kernel) (by decide +kernel)
set_option maxRecDepth 20000 in
theorem gX3_init_X1_init : GoodIn wsX3_init (wsX1_init) := ggX3_init_X1_init
set_option maxRecDepth 20000 in
theorem ggX3_init_X2_init : GoodIn wsX3_init wsX2_init := goodIn_r _ [61, 62, 2, 3, 63, 64, 75, 76] (by decide +kernel) (by decide +kernel)
set_option maxRecDepth 20000 in
theorem gX3_init_X2_init_n33 : GoodIn wsX3_init (wsX2_init) := ggX3_init_X2_init
theorem dX3_init_0 : decode cX3_init 0 = .ok (.aload_n 0, 1) := by decide +kernel
theorem dX3_init_1 : decode cX3_init 1 = .ok (.invokespecial 3, 3) := by decide +kernel
theorem dX3_init_4 : decode cX3_init 4 = .ok (.aload_n 0, 1) := by decide +kernel
theorem dX3_init_5 : decode cX3_init 5 = .ok (.new 9, 3) := by decide +kernel
theorem dX3_init_8 : decode cX3_init 8 = .ok (.dup, 1) := by decide +kernel
theorem dX3_init_9 : decode cX3_init 9 = .ok (.invokespecial 11, 3) := by decide +kernel
theorem dX3_init_12 : decode cX3_init 12 = .ok (.putfield 12, 3) := by decide +kernel
theorem dX3_init_15 : decode cX3_init 15 = .ok (.aload_n 0, 1) := by decide +kernel
theorem dX3_init_16 : decode cX3_init 16 = .ok (.new 9, 3) := by decide +kernel
theorem dX3_init_19 : decode cX3_init 19 = .ok (.dup, 1) := by decide +kernel
theorem dX3_init_20 : decode cX3_init 20 = .ok (.invokespecial 11, 3) := by decide +kernel
theorem dX3_init_23 : decode cX3_init 23 = .ok (.putfield 16, 3) := by decide +kernel
theorem dX3_init_26 : decode cX3_init 26 = .ok (.aload_n 0, 1) := by decide +kernel
theorem dX3_init_27 : decode cX3_init 27 = .ok (.new 19, 3) := by decide +kernel
theorem dX3_init_30 : decode cX3_init 30 = .ok (.dup, 1) := by decide +kernel
theorem dX3_init_31 : decode cX3_init 31 = .ok (.bipush 6, 2) := by decide +kernel
theorem dX3_init_33 : decode cX3_init 33 = .ok (.invokespecial 21, 3) := by decide +kernel
theorem dX3_init_36 : decode cX3_init 36 = .ok (.putfield 24, 3) := by decide +kernel
theorem dX3_init_39 : decode cX3_init 39 = .ok (.aload_n 0, 1) := by decide +kernel
theorem dX3_init_40 : decode cX3_init 40 = .ok (.new 19, 3) := by decide +kernel
theorem dX3_init_43 : decode cX3_init 43 = .ok (.dup, 1) := by decide +kernel
theorem dX3_init_44 : decode cX3_init 44 = .ok (.iconst 1, 1) := by decide +kernel
theorem dX3_init_45 : decode cX3_init 45 = .ok (.invokespecial 21, 3) := by decide +kernel
theorem dX3_init_48 : decode cX3_init 48 = .ok (.putfield 28, 3) := by decide +kernel
theorem dX3_init_51 : decode cX3_init 51 = .ok (.aload_n 0, 1) := by decide +kernel
theorem dX3_init_52 : decode cX3_init 52 = .ok (.new 31, 3) := by decide +kernel
theorem dX3_init_55 : decode cX3_init 55 = .ok (.dup, 1) := by decide +kernel
theorem dX3_init_56 : decode cX3_init 56 = .ok (.invokespecial 33, 3) := by decide +kernel
theorem dX3_init_59 : decode cX3_init 59 = .ok (.putfield 34, 3) := by decide +kernel
theorem dX3_init_62 : decode cX3_init 62 = .ok (.return_, 1) := by decide +kernel
set_option maxRecDepth 20000 in
theorem ggX3_hearth_X3_requireIndex : GoodIn wsX3_hearth wsX3_requireIndex := goodIn_ca (goodIn_r _ [6, 7, 8] (by decide +kernel) (by decide +kernel)) (goodIn_sub (fun _ h => List.mem_cons_of_mem _ (List.mem_append_left _ (List.mem_append_right _ h))) (by decide +kernel))
set_option maxRecDepth 20000 in
theorem gX3_hearth_X3_requireIndex : GoodIn wsX3_hearth (va_wsS RX3 38 yX3_requireIndex wsX3_requireIndex) := goodIn_app (goodIn_of _ (by decide +kernel)) ggX3_hearth_X3_requireIndex
set_option maxRecDepth 20000 in
theorem ggX3_hearth_X3_requireRange : GoodIn wsX3_hearth wsX3_requireRange := goodIn_ca (goodIn_r _ [11, 12, 13, 5, 14, 15, 16] (by decide +kernel) (by decide +kernel)) (goodIn_sub (fun _ h => List.mem_cons_of_mem _ (List.mem_append_right _ h)) (by decide +kernel))
set_option maxRecDepth 20000 in
theorem gX3_hearth_X3_requireRange : GoodIn wsX3_hearth (va_wsS RX3 42 yX3_requireRange wsX3_requireRange) := goodIn_app (goodIn_of _ (by decide +kernel)) ggX3_hearth_X3_requireRange
set_option maxRecDepth 20000 in
theorem ggX3_hearth_X1_push : GoodIn wsX3_hearth wsX1_push := goodIn_r _ [21, 22, 23, 24, 25, 26, 27, 28, 29, 30, 31, 32, 20, 33, 34, 35, 36, 37, 38, 39, 55, 56, 57, 58, 59] (by decide +kernel) (by decide +kernel)
set_option maxRecDepth 20000 in
theorem gX3_hearth_X1_push : GoodIn wsX3_hearth (wsV RX3 46 RX1 yX1_push wsX1_push) := goodIn_app (goodIn_of _ (by decide +kernel)) ggX3_hearth_X1_push
set_option maxRecDepth 20000 in
theorem ggX3_hearth_X0_put : GoodIn wsX3_hearth wsX0_put := goodIn_r _ [43, 39, 59] (by decide +kernel) (by decide +kernel)
set_option maxRecDepth 20000 in
theorem gX3_hearth_X0_put : GoodIn wsX3_hearth (wsV RX3 50 RX0 yX0_put wsX0_put) := goodIn_app (goodIn_of _ (by decide +kernel)) ggX3_hearth_X0_put
set_option maxRecDepth 20000 in
theorem ggX3_hearth_X0_swap : GoodIn wsX3_hearth wsX0_swap := goodIn_r _ [47, 48, 35, 36, 37, 38, 39, 49, 41, 42, 43, 59] (by decide +kernel) (by decide +kernel)
set_option maxRecDepth 20000 in
theorem gX3_hearth_X0_swap : GoodIn wsX3_hearth (wsV RX3 53 RX0 yX0_swap wsX0_swap) := goodIn_app (goodIn_of _ (by decide +kernel)) ggX3_hearth_X0_swap
theorem dX3_hearth_0 : decode cX3_hearth 0 = .ok (.iload_n 1, 1) := by decide +kernel
theorem dX3_hearth_1 : decode cX3_hearth 1 = .ok (.iconst 5, 1) := by decide +kernel
theorem dX3_hearth_2 : decode cX3_hearth 2 = .ok (.invokestatic 38, 3) := by decide +kernel
theorem dX3_hearth_5 : decode cX3_hearth 5 = .ok (.iload_n 3, 1) := by decide +kernel
theorem dX3_hearth_6 : decode cX3_hearth 6 = .ok (.bipush 50, 2) := by decide +kernel
theorem dX3_hearth_8 : decode cX3_hearth 8 = .ok (.sipush 900, 3) := by decide +kernel
theorem dX3_hearth_11 : decode cX3_hearth 11 = .ok (.invokestatic 42, 3) := by decide +kernel
theorem dX3_hearth_14 : decode cX3_hearth 14 = .ok (.aload_n 0, 1) := by decide +kernel
theorem dX3_hearth_15 : decode cX3_hearth 15 = .ok (.getfield 24, 3) := by decide +kernel
theorem dX3_hearth_18 : decode cX3_hearth 18 = .ok (.aload_n 0, 1) := by decide +kernel
theorem dX3_hearth_19 : decode cX3_hearth 19 = .ok (.getfield 12, 3) := by decide +kernel
theorem dX3_hearth_22 : decode cX3_hearth 22 = .ok (.invokevirtual 46, 3) := by decide +kernel
theorem dX3_hearth_25 : decode cX3_hearth 25 = .ok (.aload_n 0, 1) := by decide +kernel
theorem dX3_hearth_26 : decode cX3_hearth 26 = .ok (.getfield 12, 3) := by decide +kernel
theorem dX3_hearth_29 : decode cX3_hearth 29 = .ok (.iconst 5, 1) := by decide +kernel
theorem dX3_hearth_30 : decode cX3_hearth 30 = .ok (.iload_n 1, 1) := by decide +kernel
theorem dX3_hearth_31 : decode cX3_hearth 31 = .ok (.iadd, 1) := by decide +kernel
theorem dX3_hearth_32 : decode cX3_hearth 32 = .ok (.iload_n 2, 1) := by decide +kernel
theorem dX3_hearth_33 : decode cX3_hearth 33 = .ok (.ifCond .eq 7, 3) := by decide +kernel
theorem dX3_hearth_36 : decode cX3_hearth 36 = .ok (.iconst 1, 1) := by decide +kernel
theorem dX3_hearth_37 : decode cX3_hearth 37 = .ok (.goto 4, 3) := by decide +kernel
theorem dX3_hearth_40 : decode cX3_hearth 40 = .ok (.iconst 0, 1) := by decide +kernel
theorem dX3_hearth_41 : decode cX3_hearth 41 = .ok (.invokevirtual 50, 3) := by decide +kernel
theorem dX3_hearth_44 : decode cX3_hearth 44 = .ok (.aload_n 0, 1) := by decide +kernel
theorem dX3_hearth_45 : decode cX3_hearth 45 = .ok (.getfield 12, 3) := by decide +kernel
theorem dX3_hearth_48 : decode cX3_hearth 48 = .ok (.bipush 10, 2) := by decide +kernel
theorem dX3_hearth_50 : decode cX3_hearth 50 = .ok (.iload_n 1, 1) := by decide +kernel
theorem dX3_hearth_51 : decode cX3_hearth 51 = .ok (.iadd, 1) := by decide +kernel
theorem dX3_hearth_52 : decode cX3_hearth 52 = .ok (.iload_n 3, 1) := by decide +kernel
theorem dX3_hearth_53 : decode cX3_hearth 53 = .ok (.invokevirtual 53, 3) := by decide +kernel
theorem dX3_hearth_56 : decode cX3_hearth 56 = .ok (.ireturn, 1) := by decide +kernel
set_option maxRecDepth 20000 in
theorem ggX3_track_X3_requireIndex : GoodIn wsX3_track wsX3_requireIndex := goodIn_ca (goodIn_r _ [6, 7, 8] (by decide +kernel) (by decide +kernel)) (goodIn_sub (fun _ h => List.mem_cons_of_mem _ (List.mem_append_left _ (List.mem_append_right _ h))) (by decide +kernel))
set_option maxRecDepth 20000 in
theorem gX3_track_X3_requireIndex : GoodIn wsX3_track (va_wsS RX3 38 yX3_requireIndex wsX3_requireIndex) := goodIn_app (goodIn_of _ (by decide +kernel)) ggX3_track_X3_requireIndex
set_option maxRecDepth 20000 in
theorem ggX3_track_X3_requireRange : GoodIn wsX3_track wsX3_requireRange := goodIn_ca (goodIn_r _ [11, 12, 13, 5, 14, 15, 16] (by decide +kernel) (by decide +kernel)) (goodIn_sub (fun _ h => List.mem_cons_of_mem _ (List.mem_append_right _ h)) (by decide +kernel))
set_option maxRecDepth 20000 in
theorem gX3_track_X3_requireRange : GoodIn wsX3_track (va_wsS RX3 42 yX3_requireRange wsX3_requireRange) := goodIn_app (goodIn_of _ (by decide +kernel)) ggX3_track_X3_requireRange
set_option maxRecDepth 20000 in
theorem ggX3_track_X1_push : GoodIn wsX3_track wsX1_push := goodIn_r _ [21, 22, 23, 24, 25, 26, 27, 28, 29, 30, 31, 32, 20, 33, 34, 35, 36, 37, 38, 39, 54, 55, 56, 57, 58] (by decide +kernel) (by decide +kernel)
set_option maxRecDepth 20000 in
theorem gX3_track_X1_push : GoodIn wsX3_track (wsV RX3 46 RX1 yX1_push wsX1_push) := goodIn_app (goodIn_of _ (by decide +kernel)) ggX3_track_X1_push
set_option maxRecDepth 20000 in
theorem ggX3_track_X0_swap : GoodIn wsX3_track wsX0_swap := goodIn_r _ [43, 44, 35, 36, 37, 38, 39, 45, 46, 47, 48, 58] (by decide +kernel) (by decide +kernel)
set_option maxRecDepth 20000 in
theorem gX3_track_X0_swap : GoodIn wsX3_track (wsV RX3 53 RX0 yX0_swap wsX0_swap) := goodIn_app (goodIn_of _ (by decide +kernel)) ggX3_track_X0_swap
theorem dX3_track_0 : decode cX3_track 0 = .ok (.iload_n 1, 1) := by decide +kernel
theorem dX3_track_1 : decode cX3_track 1 = .ok (.iconst 4, 1) := by decide +kernel
theorem dX3_track_2 : decode cX3_track 2 = .ok (.invokestatic 38, 3) := by decide +kernel
theorem dX3_track_5 : decode cX3_track 5 = .ok (.iload_n 2, 1) := by decide +kernel
theorem dX3_track_6 : decode cX3_track 6 = .ok (.bipush 10, 2) := by decide +kernel
theorem dX3_track_8 : decode cX3_track 8 = .ok (.bipush 90, 2) := by decide +kernel
theorem dX3_track_10 : decode cX3_track 10 = .ok (.invokestatic 42, 3) := by decide +kernel
theorem dX3_track_13 : decode cX3_track 13 = .ok (.aload_n 0, 1) := by decide +kernel
theorem dX3_track_14 : decode cX3_track 14 = .ok (.getfield 24, 3) := by decide +kernel
theorem dX3_track_17 : decode cX3_track 17 = .ok (.aload_n 0, 1) := by decide +kernel
theorem dX3_track_18 : decode cX3_track 18 = .ok (.getfield 12, 3) := by decide +kernel
theorem dX3_track_21 : decode cX3_track 21 = .ok (.invokevirtual 46, 3) := by decide +kernel
theorem dX3_track_24 : decode cX3_track 24 = .ok (.aload_n 0, 1) := by decide +kernel
theorem dX3_track_25 : decode cX3_track 25 = .ok (.getfield 12, 3) := by decide +kernel
theorem dX3_track_28 : decode cX3_track 28 = .ok (.bipush 49, 2) := by decide +kernel
theorem dX3_track_30 : decode cX3_track 30 = .ok (.iload_n 1, 1) := by decide +kernel
theorem dX3_track_31 : decode cX3_track 31 = .ok (.iadd, 1) := by decide +kernel
theorem dX3_track_32 : decode cX3_track 32 = .ok (.iload_n 2, 1) := by decide +kernel
theorem dX3_track_33 : decode cX3_track 33 = .ok (.invokevirtual 53, 3) := by decide +kernel
theorem dX3_track_36 : decode cX3_track 36 = .ok (.ireturn, 1) := by decide +kernel
set_option maxRecDepth 20000 in
theorem ggX3_strength_X3_requireIndex : GoodIn wsX3_strength wsX3_requireIndex := goodIn_ca (goodIn_r _ [6, 7, 8] (by decide +kernel) (by decide +kernel)) (goodIn_sub (fun _ h => List.mem_cons_of_mem _ (List.mem_append_left _ (List.mem_append_right _ h))) (by decide +kernel))
set_option maxRecDepth 20000 in
theorem gX3_strength_X3_requireIndex : GoodIn wsX3_strength (va_wsS RX3 38 yX3_requireIndex wsX3_requireIndex) := goodIn_app (goodIn_of _ (by decide +kernel)) ggX3_strength_X3_requireIndex
set_option maxRecDepth 20000 in
theorem ggX3_strength_X3_requireRange : GoodIn wsX3_strength wsX3_requireRange := goodIn_ca (goodIn_r _ [11, 12, 13, 5, 14, 15, 16] (by decide +kernel) (by decide +kernel)) (goodIn_sub (fun _ h => List.mem_cons_of_mem _ (List.mem_append_right _ h)) (by decide +kernel))
set_option maxRecDepth 20000 in
theorem gX3_strength_X3_requireRange : GoodIn wsX3_strength (va_wsS RX3 42 yX3_requireRange wsX3_requireRange) := goodIn_app (goodIn_of _ (by decide +kernel)) ggX3_strength_X3_requireRange
set_option maxRecDepth 20000 in
theorem ggX3_strength_X1_push : GoodIn wsX3_strength wsX1_push := goodIn_r _ [21, 22, 23, 24, 25, 26, 27, 28, 29, 30, 31, 32, 20, 33, 34, 35, 36, 37, 38, 39, 54, 55, 56, 57, 58] (by decide +kernel) (by decide +kernel)
set_option maxRecDepth 20000 in
theorem gX3_strength_X1_push : GoodIn wsX3_strength (wsV RX3 46 RX1 yX1_push wsX1_push) := goodIn_app (goodIn_of _ (by decide +kernel)) ggX3_strength_X1_push
set_option maxRecDepth 20000 in
theorem ggX3_strength_X0_swap : GoodIn wsX3_strength wsX0_swap := goodIn_r _ [43, 44, 35, 36, 37, 38, 39, 45, 46, 47, 48, 58] (by decide +kernel) (by decide +kernel)
set_option maxRecDepth 20000 in
theorem gX3_strength_X0_swap : GoodIn wsX3_strength (wsV RX3 53 RX0 yX0_swap wsX0_swap) := goodIn_app (goodIn_of _ (by decide +kernel)) ggX3_strength_X0_swap
theorem dX3_strength_0 : decode cX3_strength 0 = .ok (.iload_n 1, 1) := by decide +kernel
theorem dX3_strength_1 : decode cX3_strength 1 = .ok (.bipush 6, 2) := by decide +kernel
theorem dX3_strength_3 : decode cX3_strength 3 = .ok (.invokestatic 38, 3) := by decide +kernel
theorem dX3_strength_6 : decode cX3_strength 6 = .ok (.iload_n 2, 1) := by decide +kernel
theorem dX3_strength_7 : decode cX3_strength 7 = .ok (.iconst 5, 1) := by decide +kernel
theorem dX3_strength_8 : decode cX3_strength 8 = .ok (.bipush 40, 2) := by decide +kernel
theorem dX3_strength_10 : decode cX3_strength 10 = .ok (.invokestatic 42, 3) := by decide +kernel
theorem dX3_strength_13 : decode cX3_strength 13 = .ok (.aload_n 0, 1) := by decide +kernel
theorem dX3_strength_14 : decode cX3_strength 14 = .ok (.getfield 24, 3) := by decide +kernel
theorem dX3_strength_17 : decode cX3_strength 17 = .ok (.aload_n 0, 1) := by decide +kernel
theorem dX3_strength_18 : decode cX3_strength 18 = .ok (.getfield 12, 3) := by decide +kernel
theorem dX3_strength_21 : decode cX3_strength 21 = .ok (.invokevirtual 46, 3) := by decide +kernel
theorem dX3_strength_24 : decode cX3_strength 24 = .ok (.aload_n 0, 1) := by decide +kernel
theorem dX3_strength_25 : decode cX3_strength 25 = .ok (.getfield 12, 3) := by decide +kernel
theorem dX3_strength_28 : decode cX3_strength 28 = .ok (.sipush 137, 3) := by decide +kernel
theorem dX3_strength_31 : decode cX3_strength 31 = .ok (.iload_n 1, 1) := by decide +kernel
theorem dX3_strength_32 : decode cX3_strength 32 = .ok (.iadd, 1) := by decide +kernel
theorem dX3_strength_33 : decode cX3_strength 33 = .ok (.iload_n 2, 1) := by decide +kernel
theorem dX3_strength_34 : decode cX3_strength 34 = .ok (.invokevirtual 53, 3) := by decide +kernel
theorem dX3_strength_37 : decode cX3_strength 37 = .ok (.ireturn, 1) := by decide +kernel
set_option maxRecDepth 20000 in
theorem ggX3_work_X3_requireIndex : GoodIn wsX3_work wsX3_requireIndex := goodIn_ca (goodIn_r _ [6, 7, 8] (by decide +kernel) (by decide +kernel)) (goodIn_sub (fun _ h => List.mem_cons_of_mem _ (List.mem_append_left _ (List.mem_append_right _ h))) (by decide +kernel))
set_option maxRecDepth 20000 in
theorem gX3_work_X3_requireIndex : GoodIn wsX3_work (va_wsS RX3 38 yX3_requireIndex wsX3_requireIndex) := goodIn_app (goodIn_of _ (by decide +kernel)) ggX3_work_X3_requireIndex
set_option maxRecDepth 20000 in
theorem ggX3_work_X0_reasonAgainst : GoodIn wsX3_work wsX0_reasonAgainst := goodIn_r _ [13, 14, 15, 12, 16, 17, 18, 19, 20, 21, 22, 23, 24, 25, 63] (by decide +kernel) (by decide +kernel)
set_option maxRecDepth 20000 in
theorem gX3_work_X0_reasonAgainst : GoodIn wsX3_work (wsV RX3 57 RX0 yX0_reasonAgainst wsX0_reasonAgainst) := goodIn_app (goodIn_of _ (by decide +kernel)) ggX3_work_X0_reasonAgainst
set_option maxRecDepth 20000 in
theorem ggX3_work_X3_requireState : GoodIn wsX3_work wsX3_requireState := goodIn_ca (goodIn_r _ [28, 29, 30] (by decide +kernel) (by decide +kernel)) (goodIn_sub (fun _ h => List.mem_cons_of_mem _ (List.mem_append_right _ h)) (by decide +kernel))
set_option maxRecDepth 20000 in
theorem gX3_work_X3_requireState : GoodIn wsX3_work (va_wsS RX3 60 yX3_requireState wsX3_requireState) := goodIn_app (goodIn_of _ (by decide +kernel)) ggX3_work_X3_requireState
set_option maxRecDepth 20000 in
theorem ggX3_work_X1_push : GoodIn wsX3_work wsX1_push := goodIn_r _ [35, 36, 37, 38, 39, 40, 41, 42, 43, 44, 45, 46, 34, 47, 48, 18, 19, 12, 20, 21, 64, 65, 66, 67, 63] (by decide +kernel) (by decide +kernel)
set_option maxRecDepth 20000 in
theorem gX3_work_X1_push : GoodIn wsX3_work (wsV RX3 46 RX1 yX1_push wsX1_push) := goodIn_app (goodIn_of _ (by decide +kernel)) ggX3_work_X1_push
set_option maxRecDepth 20000 in
theorem ggX3_work_X0_setToWork : GoodIn wsX3_work wsX0_setToWork := goodIn_r _ [52, 53, 54, 55, 12, 56, 21, 63] (by decide +kernel) (by decide +kernel)
set_option maxRecDepth 20000 in
theorem gX3_work_X0_setToWork : GoodIn wsX3_work (wsV RX3 64 RX0 yX0_setToWork wsX0_setToWork) := goodIn_app (goodIn_of _ (by decide +kernel)) ggX3_work_X0_setToWork
set_option maxRecDepth 20000 in
theorem ggX3_work_X0_cuttersAt : GoodIn wsX3_work wsX0_cuttersAt := goodIn_r _ [25, 17, 18, 19, 12, 20, 21, 63] (by decide +kernel) (by decide +kernel)
set_option maxRecDepth 20000 in
theorem gX3_work_X0_cuttersAt : GoodIn wsX3_work (wsV RX3 67 RX0 yX0_cuttersAt wsX0_cuttersAt) := goodIn_app (goodIn_of _ (by decide +kernel)) ggX3_work_X0_cuttersAt
theorem dX3_work_0 : decode cX3_work 0 = .ok (.iload_n 1, 1) := by decide +kernel
theorem dX3_work_1 : decode cX3_work 1 = .ok (.bipush 6, 2) := by decide +kernel
theorem dX3_work_3 : decode cX3_work 3 = .ok (.invokestatic 38, 3) := by decide +kernel
theorem dX3_work_6 : decode cX3_work 6 = .ok (.iload_n 2, 1) := by decide +kernel
theorem dX3_work_7 : decode cX3_work 7 = .ok (.iconst 5, 1) := by decide +kernel
theorem dX3_work_8 : decode cX3_work 8 = .ok (.invokestatic 38, 3) := by decide +kernel
theorem dX3_work_11 : decode cX3_work 11 = .ok (.iload_n 3, 1) := by decide +kernel
theorem dX3_work_12 : decode cX3_work 12 = .ok (.iconst 4, 1) := by decide +kernel
theorem dX3_work_13 : decode cX3_work 13 = .ok (.invokestatic 38, 3) := by decide +kernel
theorem dX3_work_16 : decode cX3_work 16 = .ok (.aload_n 0, 1) := by decide +kernel
theorem dX3_work_17 : decode cX3_work 17 = .ok (.getfield 12, 3) := by decide +kernel
theorem dX3_work_20 : decode cX3_work 20 = .ok (.iload_n 2, 1) := by decide +kernel
theorem dX3_work_21 : decode cX3_work 21 = .ok (.iload_n 3, 1) := by decide +kernel
theorem dX3_work_22 : decode cX3_work 22 = .ok (.invokevirtual 57, 3) := by decide +kernel
theorem dX3_work_25 : decode cX3_work 25 = .ok (.ifCond .ne 7, 3) := by decide +kernel
theorem dX3_work_28 : decode cX3_work 28 = .ok (.iconst 1, 1) := by decide +kernel
theorem dX3_work_29 : decode cX3_work 29 = .ok (.goto 4, 3) := by decide +kernel
theorem dX3_work_32 : decode cX3_work 32 = .ok (.iconst 0, 1) := by decide +kernel
theorem dX3_work_33 : decode cX3_work 33 = .ok (.invokestatic 60, 3) := by decide +kernel
theorem dX3_work_36 : decode cX3_work 36 = .ok (.aload_n 0, 1) := by decide +kernel
theorem dX3_work_37 : decode cX3_work 37 = .ok (.getfield 24, 3) := by decide +kernel
theorem dX3_work_40 : decode cX3_work 40 = .ok (.aload_n 0, 1) := by decide +kernel
theorem dX3_work_41 : decode cX3_work 41 = .ok (.getfield 12, 3) := by decide +kernel
theorem dX3_work_44 : decode cX3_work 44 = .ok (.invokevirtual 46, 3) := by decide +kernel
theorem dX3_work_47 : decode cX3_work 47 = .ok (.aload_n 0, 1) := by decide +kernel
theorem dX3_work_48 : decode cX3_work 48 = .ok (.getfield 12, 3) := by decide +kernel
theorem dX3_work_51 : decode cX3_work 51 = .ok (.iload_n 1, 1) := by decide +kernel
theorem dX3_work_52 : decode cX3_work 52 = .ok (.iload_n 2, 1) := by decide +kernel
theorem dX3_work_53 : decode cX3_work 53 = .ok (.iload_n 3, 1) := by decide +kernel
theorem dX3_work_54 : decode cX3_work 54 = .ok (.invokevirtual 64, 3) := by decide +kernel
theorem dX3_work_57 : decode cX3_work 57 = .ok (.aload_n 0, 1) := by decide +kernel
theorem dX3_work_58 : decode cX3_work 58 = .ok (.getfield 12, 3) := by decide +kernel
theorem dX3_work_61 : decode cX3_work 61 = .ok (.iload_n 2, 1) := by decide +kernel
theorem dX3_work_62 : decode cX3_work 62 = .ok (.iload_n 3, 1) := by decide +kernel
theorem dX3_work_63 : decode cX3_work 63 = .ok (.invokevirtual 67, 3) := by decide +kernel
theorem dX3_work_66 : decode cX3_work 66 = .ok (.ireturn, 1) := by decide +kernel
set_option maxRecDepth 20000 in
theorem ggX3_rest_X3_requireIndex : GoodIn wsX3_rest wsX3_requireIndex := goodIn_ca (goodIn_r _ [6, 7, 8] (by decide +kernel) (by decide +kernel)) (goodIn_sub (fun _ h => List.mem_cons_of_mem _ (List.mem_append_right _ h)) (by decide +kernel))
set_option maxRecDepth 20000 in
theorem gX3_rest_X3_requireIndex : GoodIn wsX3_rest (va_wsS RX3 38 yX3_requireIndex wsX3_requireIndex) := goodIn_app (goodIn_of _ (by decide +kernel)) ggX3_rest_X3_requireIndex
set_option maxRecDepth 20000 in
theorem ggX3_rest_X1_push : GoodIn wsX3_rest wsX1_push := goodIn_r _ [13, 14, 15, 16, 17, 18, 19, 20, 21, 22, 23, 24, 12, 25, 26, 27, 28, 29, 30, 31, 62, 63, 64, 65, 66] (by decide +kernel) (by decide +kernel)
set_option maxRecDepth 20000 in
theorem gX3_rest_X1_push : GoodIn wsX3_rest (wsV RX3 46 RX1 yX1_push wsX1_push) := goodIn_app (goodIn_of _ (by decide +kernel)) ggX3_rest_X1_push
set_option maxRecDepth 20000 in
theorem ggX3_rest_X0_letRest : GoodIn wsX3_rest wsX0_letRest := goodIn_r _ [35, 36, 37, 38, 29, 39, 40, 41, 42, 43, 31, 66] (by decide +kernel) (by decide +kernel)
set_option maxRecDepth 20000 in
theorem gX3_rest_X0_letRest : GoodIn wsX3_rest (wsV RX3 70 RX0 yX0_letRest wsX0_letRest) := goodIn_app (goodIn_of _ (by decide +kernel)) ggX3_rest_X0_letRest
set_option maxRecDepth 20000 in
theorem ggX3_rest_X0_cuttersAtWork : GoodIn wsX3_rest wsX0_cuttersAtWork := goodIn_r _ [47, 48, 49, 50, 29, 51, 52, 53, 54, 55, 56, 27, 28, 30, 31, 66] (by decide +kernel) (by decide +kernel)
set_option maxRecDepth 20000 in
theorem gX3_rest_X0_cuttersAtWork : GoodIn wsX3_rest (wsV RX3 73 RX0 yX0_cuttersAtWork wsX0_cuttersAtWork) := goodIn_app (goodIn_of _ (by decide +kernel)) ggX3_rest_X0_cuttersAtWork
theorem dX3_rest_0 : decode cX3_rest 0 = .ok (.iload_n 1, 1) := by decide +kernel
theorem dX3_rest_1 : decode cX3_rest 1 = .ok (.bipush 6, 2) := by decide +kernel
theorem dX3_rest_3 : decode cX3_rest 3 = .ok (.invokestatic 38, 3) := by decide +kernel
theorem dX3_rest_6 : decode cX3_rest 6 = .ok (.aload_n 0, 1) := by decide +kernel
theorem dX3_rest_7 : decode cX3_rest 7 = .ok (.getfield 24, 3) := by decide +kernel
theorem dX3_rest_10 : decode cX3_rest 10 = .ok (.aload_n 0, 1) := by decide +kernel
theorem dX3_rest_11 : decode cX3_rest 11 = .ok (.getfield 12, 3) := by decide +kernel
theorem dX3_rest_14 : decode cX3_rest 14 = .ok (.invokevirtual 46, 3) := by decide +kernel
theorem dX3_rest_17 : decode cX3_rest 17 = .ok (.aload_n 0, 1) := by decide +kernel
theorem dX3_rest_18 : decode cX3_rest 18 = .ok (.getfield 12, 3) := by decide +kernel
theorem dX3_rest_21 : decode cX3_rest 21 = .ok (.iload_n 1, 1) := by decide +kernel
theorem dX3_rest_22 : decode cX3_rest 22 = .ok (.invokevirtual 70, 3) := by decide +kernel
theorem dX3_rest_25 : decode cX3_rest 25 = .ok (.aload_n 0, 1) := by decide +kernel
theorem dX3_rest_26 : decode cX3_rest 26 = .ok (.getfield 12, 3) := by decide +kernel
theorem dX3_rest_29 : decode cX3_rest 29 = .ok (.invokevirtual 73, 3) := by decide +kernel
theorem dX3_rest_32 : decode cX3_rest 32 = .ok (.ireturn, 1) := by decide +kernel
set_option maxRecDepth 20000 in
theorem ggX3_give_X3_requireHolder : GoodIn wsX3_give wsX3_requireHolder := goodIn_ca (goodIn_r _ [6, 7, 8, 5, 9, 10, 11] (by decide +kernel) (by decide +kernel)) (goodIn_sub (fun _ h => List.mem_cons_of_mem _ (List.mem_append_left _ (List.mem_append_left _ (List.mem_append_right _ h)))) (by decide +kernel))
set_option maxRecDepth 20000 in
theorem gX3_give_X3_requireHolder : GoodIn wsX3_give (va_wsS RX3 77 yX3_requireHolder wsX3_requireHolder) := goodIn_app (goodIn_of _ (by decide +kernel)) ggX3_give_X3_requireHolder
set_option maxRecDepth 20000 in
theorem ggX3_give_X3_requireIndex : GoodIn wsX3_give wsX3_requireIndex := goodIn_ca (goodIn_r _ [9, 10, 11] (by decide +kernel) (by decide +kernel)) (goodIn_sub (fun _ h => List.mem_cons_of_mem _ (List.mem_append_left _ (List.mem_append_left _ (List.mem_append_right _ h)))) (by decide +kernel))
set_option maxRecDepth 20000 in
theorem gX3_give_X3_requireIndex : GoodIn wsX3_give (va_wsS RX3 38 yX3_requireIndex wsX3_requireIndex) := goodIn_app (goodIn_of _ (by decide +kernel)) ggX3_give_X3_requireIndex
set_option maxRecDepth 20000 in
theorem ggX3_give_X3_requireRange : GoodIn wsX3_give wsX3_requireRange := goodIn_ca (goodIn_r _ [14, 15, 16, 5, 17, 18, 19] (by decide +kernel) (by decide +kernel)) (goodIn_sub (fun _ h => List.mem_cons_of_mem _ (List.mem_append_left _ (List.mem_append_right _ h))) (by decide +kernel))
set_option maxRecDepth 20000 in
theorem gX3_give_X3_requireRange : GoodIn wsX3_give (va_wsS RX3 42 yX3_requireRange wsX3_requireRange) := goodIn_app (goodIn_of _ (by decide +kernel)) ggX3_give_X3_requireRange
set_option maxRecDepth 20000 in
theorem ggX3_give_X3_requireArgument : GoodIn wsX3_give wsX3_requireArgument := goodIn_ca (goodIn_r _ [17, 18, 19] (by decide +kernel) (by decide +kernel)) (goodIn_sub (fun _ h => List.mem_cons_of_mem _ (List.mem_append_left _ (List.mem_append_right _ h))) (by decide +kernel))
set_option maxRecDepth 20000 in
theorem gX3_give_X3_requireArgument : GoodIn wsX3_give (va_wsS RX3 80 yX3_requireArgument wsX3_requireArgument) := goodIn_app (goodIn_of _ (by decide +kernel)) ggX3_give_X3_requireArgument
set_option maxRecDepth 20000 in
theorem ggX3_give_X0_sharesPlace : GoodIn wsX3_give wsX0_sharesPlace := goodIn_r _ [23, 24, 25, 22, 26] (by decide +kernel) (by decide +kernel)
set_option maxRecDepth 20000 in
theorem gX3_give_X0_sharesPlace : GoodIn wsX3_give (va_wsS RX3 83 yX0_sharesPlace wsX0_sharesPlace) := goodIn_app (goodIn_of _ (by decide +kernel)) ggX3_give_X0_sharesPlace
set_option maxRecDepth 20000 in
theorem ggX3_give_X0_at : GoodIn wsX3_give wsX0_at := goodIn_r _ [30, 31, 69] (by decide +kernel) (by decide +kernel)
set_option maxRecDepth 20000 in
theorem gX3_give_X0_at : GoodIn wsX3_give (wsV RX3 86 RX0 yX0_at wsX0_at) := goodIn_app (goodIn_of _ (by decide +kernel)) ggX3_give_X0_at
set_option maxRecDepth 20000 in
theorem ggX3_give_X3_requireState : GoodIn wsX3_give wsX3_requireState := goodIn_ca (goodIn_r _ [34, 35, 36] (by decide +kernel) (by decide +kernel)) (goodIn_sub (fun _ h => List.mem_cons_of_mem _ (List.mem_append_right _ h)) (by decide +kernel))
set_option maxRecDepth 20000 in
theorem gX3_give_X3_requireState : GoodIn wsX3_give (va_wsS RX3 60 yX3_requireState wsX3_requireState) := goodIn_app (goodIn_of _ (by decide +kernel)) ggX3_give_X3_requireState
set_option maxRecDepth 20000 in
theorem ggX3_give_X1_push : GoodIn wsX3_give wsX1_push := goodIn_r _ [41, 42, 43, 44, 45, 46, 47, 48, 49, 50, 51, 52, 40, 53, 54, 28, 29, 22, 30, 31, 70, 71, 72, 73, 69] (by decide +kernel) (by decide +kernel)
set_option maxRecDepth 20000 in
theorem gX3_give_X1_push : GoodIn wsX3_give (wsV RX3 46 RX1 yX1_push wsX1_push) := goodIn_app (goodIn_of _ (by decide +kernel)) ggX3_give_X1_push
set_option maxRecDepth 20000 in
theorem ggX3_give_X0_add : GoodIn wsX3_give wsX0_add := goodIn_r _ [58, 59, 28, 29, 22, 30, 31, 60, 61, 62, 63, 69] (by decide +kernel) (by decide +kernel)
set_option maxRecDepth 20000 in
theorem gX3_give_X0_add : GoodIn wsX3_give (wsV RX3 90 RX0 yX0_add wsX0_add) := goodIn_app (goodIn_of _ (by decide +kernel)) ggX3_give_X0_add
theorem dX3_give_0 : decode cX3_give 0 = .ok (.iload_n 1, 1) := by decide +kernel
theorem dX3_give_1 : decode cX3_give 1 = .ok (.invokestatic 77, 3) := by decide +kernel
theorem dX3_give_4 : decode cX3_give 4 = .ok (.iload_n 2, 1) := by decide +kernel
theorem dX3_give_5 : decode cX3_give 5 = .ok (.invokestatic 77, 3) := by decide +kernel
theorem dX3_give_8 : decode cX3_give 8 = .ok (.iload_n 3, 1) := by decide +kernel
theorem dX3_give_9 : decode cX3_give 9 = .ok (.iconst 4, 1) := by decide +kernel
theorem dX3_give_10 : decode cX3_give 10 = .ok (.invokestatic 38, 3) := by decide +kernel
theorem dX3_give_13 : decode cX3_give 13 = .ok (.iload 4, 2) := by decide +kernel
theorem dX3_give_15 : decode cX3_give 15 = .ok (.iconst 1, 1) := by decide +kernel
theorem dX3_give_16 : decode cX3_give 16 = .ok (.bipush 12, 2) := by decide +kernel
theorem dX3_give_18 : decode cX3_give 18 = .ok (.invokestatic 42, 3) := by decide +kernel
theorem dX3_give_21 : decode cX3_give 21 = .ok (.iload_n 1, 1) := by decide +kernel
theorem dX3_give_22 : decode cX3_give 22 = .ok (.iload_n 2, 1) := by decide +kernel
theorem dX3_give_23 : decode cX3_give 23 = .ok (.if_icmp .eq 7, 3) := by decide +kernel
theorem dX3_give_26 : decode cX3_give 26 = .ok (.iconst 1, 1) := by decide +kernel
theorem dX3_give_27 : decode cX3_give 27 = .ok (.goto 4, 3) := by decide +kernel
theorem dX3_give_30 : decode cX3_give 30 = .ok (.iconst 0, 1) := by decide +kernel
theorem dX3_give_31 : decode cX3_give 31 = .ok (.invokestatic 80, 3) := by decide +kernel
theorem dX3_give_34 : decode cX3_give 34 = .ok (.iload_n 1, 1) := by decide +kernel
theorem dX3_give_35 : decode cX3_give 35 = .ok (.iload_n 3, 1) := by decide +kernel
theorem dX3_give_36 : decode cX3_give 36 = .ok (.invokestatic 83, 3) := by decide +kernel
theorem dX3_give_39 : decode cX3_give 39 = .ok (.istore 5, 2) := by decide +kernel
theorem dX3_give_41 : decode cX3_give 41 = .ok (.iload_n 2, 1) := by decide +kernel
theorem dX3_give_42 : decode cX3_give 42 = .ok (.iload_n 3, 1) := by decide +kernel
theorem dX3_give_43 : decode cX3_give 43 = .ok (.invokestatic 83, 3) := by decide +kernel
theorem dX3_give_46 : decode cX3_give 46 = .ok (.istore 6, 2) := by decide +kernel
theorem dX3_give_48 : decode cX3_give 48 = .ok (.aload_n 0, 1) := by decide +kernel
theorem dX3_give_49 : decode cX3_give 49 = .ok (.getfield 12, 3) := by decide +kernel
theorem dX3_give_52 : decode cX3_give 52 = .ok (.iload 5, 2) := by decide +kernel
theorem dX3_give_54 : decode cX3_give 54 = .ok (.invokevirtual 86, 3) := by decide +kernel
theorem dX3_give_57 : decode cX3_give 57 = .ok (.iload 4, 2) := by decide +kernel
theorem dX3_give_59 : decode cX3_give 59 = .ok (.if_icmp .lt 7, 3) := by decide +kernel
theorem dX3_give_62 : decode cX3_give 62 = .ok (.iconst 1, 1) := by decide +kernel
theorem dX3_give_63 : decode cX3_give 63 = .ok (.goto 4, 3) := by decide +kernel
theorem dX3_give_66 : decode cX3_give 66 = .ok (.iconst 0, 1) := by decide +kernel
theorem dX3_give_67 : decode cX3_give 67 = .ok (.invokestatic 60, 3) := by decide +kernel
theorem dX3_give_70 : decode cX3_give 70 = .ok (.aload_n 0, 1) := by decide +kernel
theorem dX3_give_71 : decode cX3_give 71 = .ok (.getfield 24, 3) := by decide +kernel
theorem dX3_give_74 : decode cX3_give 74 = .ok (.aload_n 0, 1) := by decide +kernel
theorem dX3_give_75 : decode cX3_give 75 = .ok (.getfield 12, 3) := by decide +kernel
theorem dX3_give_78 : decode cX3_give 78 = .ok (.invokevirtual 46, 3) := by decide +kernel
theorem dX3_give_81 : decode cX3_give 81 = .ok (.aload_n 0, 1) := by decide +kernel
theorem dX3_give_82 : decode cX3_give 82 = .ok (.getfield 12, 3) := by decide +kernel
theorem dX3_give_85 : decode cX3_give 85 = .ok (.iload 5, 2) := by decide +kernel
theorem dX3_give_87 : decode cX3_give 87 = .ok (.iload 4, 2) := by decide +kernel
theorem dX3_give_89 : decode cX3_give 89 = .ok (.ineg, 1) := by decide +kernel
theorem dX3_give_90 : decode cX3_give 90 = .ok (.invokevirtual 90, 3) := by decide +kernel
theorem dX3_give_93 : decode cX3_give 93 = .ok (.aload_n 0, 1) := by decide +kernel
theorem dX3_give_94 : decode cX3_give 94 = .ok (.getfield 12, 3) := by decide +kernel
theorem dX3_give_97 : decode cX3_give 97 = .ok (.iload 6, 2) := by decide +kernel
theorem dX3_give_99 : decode cX3_give 99 = .ok (.iload 4, 2) := by decide +kernel
theorem dX3_give_101 : decode cX3_give 101 = .ok (.invokevirtual 90, 3) := by decide +kernel
theorem dX3_give_104 : decode cX3_give 104 = .ok (.aload_n 0, 1) := by decide +kernel
theorem dX3_give_105 : decode cX3_give 105 = .ok (.getfield 12, 3) := by decide +kernel
theorem dX3_give_108 : decode cX3_give 108 = .ok (.iload 6, 2) := by decide +kernel
theorem dX3_give_110 : decode cX3_give 110 = .ok (.invokevirtual 86, 3) := by decide +kernel
theorem dX3_give_113 : decode cX3_give 113 = .ok (.ireturn, 1) := by decide +kernel
set_option maxRecDepth 20000 in
theorem ggX3_snow_X1_push : GoodIn wsX3_snow wsX1_push := goodIn_r _ [7, 8, 9, 10, 11, 12, 13, 14, 15, 16, 17, 18, 6, 19, 20, 21, 22, 23, 24, 25, 49, 50, 51, 52, 53] (by decide +kernel) (by decide +kernel)
set_option maxRecDepth 20000 in
theorem gX3_snow_X1_push : GoodIn wsX3_snow (wsV RX3 46 RX1 yX1_push wsX1_push) := goodIn_app (goodIn_of _ (by decide +kernel)) ggX3_snow_X1_push
set_option maxRecDepth 20000 in
theorem ggX3_snow_X0_turnSnow : GoodIn wsX3_snow wsX0_turnSnow := goodIn_r _ [29, 30, 21, 22, 23, 24, 25, 31, 32, 33, 34, 35, 36, 37, 38, 39, 40, 41, 42, 53] (by decide +kernel) (by decide +kernel)
set_option maxRecDepth 20000 in
theorem gX3_snow_X0_turnSnow : GoodIn wsX3_snow (wsV RX3 93 RX0 yX0_turnSnow wsX0_turnSnow) := goodIn_app (goodIn_of _ (by decide +kernel)) ggX3_snow_X0_turnSnow
set_option maxRecDepth 20000 in
theorem ggX3_snow_X0_at : GoodIn wsX3_snow wsX0_at := goodIn_r _ [24, 25, 53] (by decide +kernel) (by decide +kernel)
set_option maxRecDepth 20000 in
theorem gX3_snow_X0_at : GoodIn wsX3_snow (wsV RX3 86 RX0 yX0_at wsX0_at) := goodIn_app (goodIn_of _ (by decide +kernel)) ggX3_snow_X0_at
theorem dX3_snow_0 : decode cX3_snow 0 = .ok (.aload_n 0, 1) := by decide +kernel
theorem dX3_snow_1 : decode cX3_snow 1 = .ok (.getfield 24, 3) := by decide +kernel
theorem dX3_snow_4 : decode cX3_snow 4 = .ok (.aload_n 0, 1) := by decide +kernel
theorem dX3_snow_5 : decode cX3_snow 5 = .ok (.getfield 12, 3) := by decide +kernel
theorem dX3_snow_8 : decode cX3_snow 8 = .ok (.invokevirtual 46, 3) := by decide +kernel
theorem dX3_snow_11 : decode cX3_snow 11 = .ok (.aload_n 0, 1) := by decide +kernel
theorem dX3_snow_12 : decode cX3_snow 12 = .ok (.getfield 12, 3) := by decide +kernel
theorem dX3_snow_15 : decode cX3_snow 15 = .ok (.invokevirtual 93, 3) := by decide +kernel
theorem dX3_snow_18 : decode cX3_snow 18 = .ok (.aload_n 0, 1) := by decide +kernel
theorem dX3_snow_19 : decode cX3_snow 19 = .ok (.getfield 12, 3) := by decide +kernel
theorem dX3_snow_22 : decode cX3_snow 22 = .ok (.iconst 1, 1) := by decide +kernel
theorem dX3_snow_23 : decode cX3_snow 23 = .ok (.invokevirtual 86, 3) := by decide +kernel
theorem dX3_snow_26 : decode cX3_snow 26 = .ok (.ireturn, 1) := by decide +kernel
set_option maxRecDepth 20000 in
theorem ggX3_pass_X3_requireRange : GoodIn wsX3_pass wsX3_requireRange := goodIn_ca (goodIn_r _ [6, 7, 8, 5, 9, 10, 11] (by decide +kernel) (by decide +kernel)) (goodIn_sub (fun _ h => List.mem_cons_of_mem _ (List.mem_append_right _ h)) (by decide +kernel))
set_option maxRecDepth 20000 in
theorem gX3_pass_X3_requireRange : GoodIn wsX3_pass (va_wsS RX3 42 yX3_requireRange wsX3_requireRange) := goodIn_app (goodIn_of _ (by decide +kernel)) ggX3_pass_X3_requireRange
set_option maxRecDepth 20000 in
theorem ggX3_pass_X1_push : GoodIn wsX3_pass wsX1_push := goodIn_r _ [16, 17, 18, 19, 20, 21, 22, 23, 24, 25, 26, 27, 15, 28, 29, 30, 31, 32, 33, 34, 104, 105, 106, 107, 108] (by decide +kernel) (by decide +kernel)
set_option maxRecDepth 20000 in
theorem gX3_pass_X1_push : GoodIn wsX3_pass (wsV RX3 46 RX1 yX1_push wsX1_push) := goodIn_app (goodIn_of _ (by decide +kernel)) ggX3_pass_X1_push
set_option maxRecDepth 20000 in
theorem ggX3_pass_X0_passDays : GoodIn wsX3_pass wsX0_passDays := goodIn_r _ [38, 39, 40, 41, 32, 42, 43, 30, 31, 33, 34, 44, 45, 46, 47, 48, 49, 50, 51, 52, 53, 54, 55, 56, 57, 58, 59, 60, 61, 62, 63, 64, 65, 66, 67, 21, 22, 23, 68, 69, 70, 71, 72, 73, 74, 75, 76, 77, 78, 79, 80, 81, 82, 83, 84, 85, 86, 87, 88, 89, 90, 91, 92, 93, 94, 95, 96, 97, 98, 108] (by decide +kernel) (by decide +kernel)
set_option maxRecDepth 20000 in
theorem gX3_pass_X0_passDays : GoodIn wsX3_pass (wsV RX3 96 RX0 yX0_passDays wsX0_passDays) := goodIn_app (goodIn_of _ (by decide +kernel)) ggX3_pass_X0_passDays
theorem dX3_pass_0 : decode cX3_pass 0 = .ok (.iload_n 1, 1) := by decide +kernel
theorem dX3_pass_1 : decode cX3_pass 1 = .ok (.iconst 1, 1) := by decide +kernel
theorem dX3_pass_2 : decode cX3_pass 2 = .ok (.bipush 60, 2) := by decide +kernel
theorem dX3_pass_4 : decode cX3_pass 4 = .ok (.invokestatic 42, 3) := by decide +kernel
theorem dX3_pass_7 : decode cX3_pass 7 = .ok (.aload_n 0, 1) := by decide +kernel
theorem dX3_pass_8 : decode cX3_pass 8 = .ok (.getfield 24, 3) := by decide +kernel
theorem dX3_pass_11 : decode cX3_pass 11 = .ok (.aload_n 0, 1) := by decide +kernel
theorem dX3_pass_12 : decode cX3_pass 12 = .ok (.getfield 12, 3) := by decide +kernel
theorem dX3_pass_15 : decode cX3_pass 15 = .ok (.invokevirtual 46, 3) := by decide +kernel
theorem dX3_pass_18 : decode cX3_pass 18 = .ok (.aload_n 0, 1) := by decide +kernel
theorem dX3_pass_19 : decode cX3_pass 19 = .ok (.getfield 12, 3) := by decide +kernel
theorem dX3_pass_22 : decode cX3_pass 22 = .ok (.iload_n 1, 1) := by decide +kernel
theorem dX3_pass_23 : decode cX3_pass 23 = .ok (.invokevirtual 96, 3) := by decide +kernel
theorem dX3_pass_26 : decode cX3_pass 26 = .ok (.ireturn, 1) := by decide +kernel
set_option maxRecDepth 20000 in
theorem ggX3_set_X3_requireIndex : GoodIn wsX3_set wsX3_requireIndex := goodIn_ca (goodIn_r _ [8, 9, 10] (by decide +kernel) (by decide +kernel)) (goodIn_sub (fun _ h => List.mem_cons_of_mem _ (List.mem_append_left _ (List.mem_append_right _ h))) (by decide +kernel))
set_option maxRecDepth 20000 in
theorem gX3_set_X3_requireIndex : GoodIn wsX3_set (va_wsS RX3 38 yX3_requireIndex wsX3_requireIndex) := goodIn_app (goodIn_of _ (by decide +kernel)) ggX3_set_X3_requireIndex
set_option maxRecDepth 20000 in
theorem ggX3_set_X3_requireRange : GoodIn wsX3_set wsX3_requireRange := goodIn_ca (goodIn_r _ [13, 14, 15, 7, 16, 17, 18] (by decide +kernel) (by decide +kernel)) (goodIn_sub (fun _ h => List.mem_cons_of_mem _ (List.mem_append_right _ h)) (by decide +kernel))
set_option maxRecDepth 20000 in
theorem gX3_set_X3_requireRange : GoodIn wsX3_set (va_wsS RX3 42 yX3_requireRange wsX3_requireRange) := goodIn_app (goodIn_of _ (by decide +kernel)) ggX3_set_X3_requireRange
set_option maxRecDepth 20000 in
theorem ggX3_set_X1_push : GoodIn wsX3_set wsX1_push := goodIn_r _ [23, 24, 25, 26, 27, 28, 29, 30, 31, 32, 33, 34, 22, 35, 36, 37, 38, 39, 40, 41, 56, 57, 58, 59, 60] (by decide +kernel) (by decide +kernel)
set_option maxRecDepth 20000 in
theorem gX3_set_X1_push : GoodIn wsX3_set (wsV RX3 46 RX1 yX1_push wsX1_push) := goodIn_app (goodIn_of _ (by decide +kernel)) ggX3_set_X1_push
set_option maxRecDepth 20000 in
theorem ggX3_set_X0_swap : GoodIn wsX3_set wsX0_swap := goodIn_r _ [45, 46, 37, 38, 39, 40, 41, 47, 48, 49, 50, 60] (by decide +kernel) (by decide +kernel)
set_option maxRecDepth 20000 in
theorem gX3_set_X0_swap : GoodIn wsX3_set (wsV RX3 53 RX0 yX0_swap wsX0_swap) := goodIn_app (goodIn_of _ (by decide +kernel)) ggX3_set_X0_swap
theorem dX3_set_0 : decode cX3_set 0 = .ok (.iload_n 1, 1) := by decide +kernel
theorem dX3_set_1 : decode cX3_set 1 = .ok (.iconst 3, 1) := by decide +kernel
theorem dX3_set_2 : decode cX3_set 2 = .ok (.invokestatic 38, 3) := by decide +kernel
theorem dX3_set_5 : decode cX3_set 5 = .ok (.iload_n 2, 1) := by decide +kernel
theorem dX3_set_6 : decode cX3_set 6 = .ok (.getstatic 99, 3) := by decide +kernel
theorem dX3_set_9 : decode cX3_set 9 = .ok (.iload_n 1, 1) := by decide +kernel
theorem dX3_set_10 : decode cX3_set 10 = .ok (.iaload, 1) := by decide +kernel
theorem dX3_set_11 : decode cX3_set 11 = .ok (.getstatic 103, 3) := by decide +kernel
theorem dX3_set_14 : decode cX3_set 14 = .ok (.iload_n 1, 1) := by decide +kernel
theorem dX3_set_15 : decode cX3_set 15 = .ok (.iaload, 1) := by decide +kernel
theorem dX3_set_16 : decode cX3_set 16 = .ok (.invokestatic 42, 3) := by decide +kernel
theorem dX3_set_19 : decode cX3_set 19 = .ok (.aload_n 0, 1) := by decide +kernel
theorem dX3_set_20 : decode cX3_set 20 = .ok (.getfield 24, 3) := by decide +kernel
theorem dX3_set_23 : decode cX3_set 23 = .ok (.aload_n 0, 1) := by decide +kernel
theorem dX3_set_24 : decode cX3_set 24 = .ok (.getfield 12, 3) := by decide +kernel
theorem dX3_set_27 : decode cX3_set 27 = .ok (.invokevirtual 46, 3) := by decide +kernel
theorem dX3_set_30 : decode cX3_set 30 = .ok (.aload_n 0, 1) := by decide +kernel
theorem dX3_set_31 : decode cX3_set 31 = .ok (.getfield 12, 3) := by decide +kernel
theorem dX3_set_34 : decode cX3_set 34 = .ok (.iconst 2, 1) := by decide +kernel
theorem dX3_set_35 : decode cX3_set 35 = .ok (.iload_n 1, 1) := by decide +kernel
theorem dX3_set_36 : decode cX3_set 36 = .ok (.iadd, 1) := by decide +kernel
theorem dX3_set_37 : decode cX3_set 37 = .ok (.iload_n 2, 1) := by decide +kernel
theorem dX3_set_38 : decode cX3_set 38 = .ok (.invokevirtual 53, 3) := by decide +kernel
theorem dX3_set_41 : decode cX3_set 41 = .ok (.ireturn, 1) := by decide +kernel
set_option maxRecDepth 20000 in
theorem ggX3_append_X3_requireRange : GoodIn wsX3_append wsX3_requireRange := goodIn_ca (goodIn_r _ [5, 6, 7, 4, 8, 9, 10] (by decide +kernel) (by decide +kernel)) (goodIn_sub (fun _ h => List.mem_cons_of_mem _ (List.mem_append_left _ (List.mem_append_right _ h))) (by decide +kernel))
set_option maxRecDepth 20000 in
theorem gX3_append_X3_requireRange : GoodIn wsX3_append (va_wsS RX3 42 yX3_requireRange wsX3_requireRange) := goodIn_app (goodIn_of _ (by decide +kernel)) ggX3_append_X3_requireRange
set_option maxRecDepth 20000 in
theorem ggX3_append_X2_length : GoodIn wsX3_append wsX2_length := goodIn_r _ [15, 16, 32, 33] (by decide +kernel) (by decide +kernel)
set_option maxRecDepth 20000 in
theorem gX3_append_X2_length : GoodIn wsX3_append (wsV RX3 106 RX2 yX2_length wsX2_length) := goodIn_app (goodIn_of _ (by decide +kernel)) ggX3_append_X2_length
set_option maxRecDepth 20000 in
theorem ggX3_append_X3_requireState : GoodIn wsX3_append wsX3_requireState := goodIn_ca (goodIn_r _ [19, 20, 21] (by decide +kernel) (by decide +kernel)) (goodIn_sub (fun _ h => List.mem_cons_of_mem _ (List.mem_append_right _ h)) (by decide +kernel))
set_option maxRecDepth 20000 in
theorem gX3_append_X3_requireState : GoodIn wsX3_append (va_wsS RX3 60 yX3_requireState wsX3_requireState) := goodIn_app (goodIn_of _ (by decide +kernel)) ggX3_append_X3_requireState
set_option maxRecDepth 20000 in
theorem ggX3_append_X2_push : GoodIn wsX3_append wsX2_push := goodIn_r _ [25, 16, 26, 32, 33] (by decide +kernel) (by decide +kernel)
set_option maxRecDepth 20000 in
theorem gX3_append_X2_push : GoodIn wsX3_append (wsV RX3 109 RX2 yX2_push wsX2_push) := goodIn_app (goodIn_of _ (by decide +kernel)) ggX3_append_X2_push
theorem dX3_append_0 : decode cX3_append 0 = .ok (.iload_n 1, 1) := by decide +kernel
theorem dX3_append_1 : decode cX3_append 1 = .ok (.bipush 33, 2) := by decide +kernel
theorem dX3_append_3 : decode cX3_append 3 = .ok (.bipush 126, 2) := by decide +kernel
theorem dX3_append_5 : decode cX3_append 5 = .ok (.invokestatic 42, 3) := by decide +kernel
theorem dX3_append_8 : decode cX3_append 8 = .ok (.aload_n 0, 1) := by decide +kernel
theorem dX3_append_9 : decode cX3_append 9 = .ok (.getfield 34, 3) := by decide +kernel
theorem dX3_append_12 : decode cX3_append 12 = .ok (.invokevirtual 106, 3) := by decide +kernel
theorem dX3_append_15 : decode cX3_append 15 = .ok (.bipush 60, 2) := by decide +kernel
theorem dX3_append_17 : decode cX3_append 17 = .ok (.if_icmp .ge 7, 3) := by decide +kernel
theorem dX3_append_20 : decode cX3_append 20 = .ok (.iconst 1, 1) := by decide +kernel
theorem dX3_append_21 : decode cX3_append 21 = .ok (.goto 4, 3) := by decide +kernel
theorem dX3_append_24 : decode cX3_append 24 = .ok (.iconst 0, 1) := by decide +kernel
theorem dX3_append_25 : decode cX3_append 25 = .ok (.invokestatic 60, 3) := by decide +kernel
theorem dX3_append_28 : decode cX3_append 28 = .ok (.aload_n 0, 1) := by decide +kernel
theorem dX3_append_29 : decode cX3_append 29 = .ok (.getfield 34, 3) := by decide +kernel
theorem dX3_append_32 : decode cX3_append 32 = .ok (.iload_n 1, 1) := by decide +kernel
theorem dX3_append_33 : decode cX3_append 33 = .ok (.i2c, 1) := by decide +kernel
theorem dX3_append_34 : decode cX3_append 34 = .ok (.invokevirtual 109, 3) := by decide +kernel
theorem dX3_append_37 : decode cX3_append 37 = .ok (.aload_n 0, 1) := by decide +kernel
theorem dX3_append_38 : decode cX3_append 38 = .ok (.getfield 34, 3) := by decide +kernel
theorem dX3_append_41 : decode cX3_append 41 = .ok (.invokevirtual 106, 3) := by decide +kernel
theorem dX3_append_44 : decode cX3_append 44 = .ok (.ireturn, 1) := by decide +kernel
set_option maxRecDepth 20000 in
theorem ggX3_clearBuffer_X2_length : GoodIn wsX3_clearBuffer wsX2_length := goodIn_r _ [6, 7, 17, 18] (by decide +kernel) (by decide +kernel)
set_option maxRecDepth 20000 in
theorem gX3_clearBuffer_X2_length : GoodIn wsX3_clearBuffer (wsV RX3 106 RX2 yX2_length wsX2_length) := goodIn_app (goodIn_of _ (by decide +kernel)) ggX3_clearBuffer_X2_length
set_option maxRecDepth 20000 in
theorem ggX3_clearBuffer_X2_wipe : GoodIn wsX3_clearBuffer wsX2_wipe := goodIn_r _ [11, 7, 17, 18] (by decide +kernel) (by decide +kernel)
set_option maxRecDepth 20000 in
theorem gX3_clearBuffer_X2_wipe : GoodIn wsX3_clearBuffer (wsV RX3 112 RX2 yX2_wipe wsX2_wipe) := goodIn_app (goodIn_of _ (by decide +kernel)) ggX3_clearBuffer_X2_wipe
theorem dX3_clearBuffer_0 : decode cX3_clearBuffer 0 = .ok (.aload_n 0, 1) := by decide +kernel
theorem dX3_clearBuffer_1 : decode cX3_clearBuffer 1 = .ok (.getfield 34, 3) := by decide +kernel
theorem dX3_clearBuffer_4 : decode cX3_clearBuffer 4 = .ok (.invokevirtual 106, 3) := by decide +kernel
theorem dX3_clearBuffer_7 : decode cX3_clearBuffer 7 = .ok (.istore_n 1, 1) := by decide +kernel
theorem dX3_clearBuffer_8 : decode cX3_clearBuffer 8 = .ok (.aload_n 0, 1) := by decide +kernel
theorem dX3_clearBuffer_9 : decode cX3_clearBuffer 9 = .ok (.getfield 34, 3) := by decide +kernel
theorem dX3_clearBuffer_12 : decode cX3_clearBuffer 12 = .ok (.invokevirtual 112, 3) := by decide +kernel
theorem dX3_clearBuffer_15 : decode cX3_clearBuffer 15 = .ok (.iload_n 1, 1) := by decide +kernel
theorem dX3_clearBuffer_16 : decode cX3_clearBuffer 16 = .ok (.ireturn, 1) := by decide +kernel
set_option maxRecDepth 20000 in
theorem ggX3_firstError_X2_rightSigns : GoodIn wsX3_firstError wsX2_rightSigns := goodIn_r _ [6, 7, 8, 9, 10, 5, 11, 12, 13, 14, 15, 16, 17, 18, 19, 20, 21, 22, 23, 24, 25, 26, 27, 33, 34] (by decide +kernel) (by decide +kernel)
set_option maxRecDepth 20000 in
theorem gX3_firstError_X2_rightSigns : GoodIn wsX3_firstError (wsV RX3 115 RX2 yX2_rightSigns wsX2_rightSigns) := goodIn_app (goodIn_of _ (by decide +kernel)) ggX3_firstError_X2_rightSigns
theorem dX3_firstError_0 : decode cX3_firstError 0 = .ok (.aload_n 0, 1) := by decide +kernel
theorem dX3_firstError_1 : decode cX3_firstError 1 = .ok (.getfield 34, 3) := by decide +kernel
theorem dX3_firstError_4 : decode cX3_firstError 4 = .ok (.invokevirtual 115, 3) := by decide +kernel
theorem dX3_firstError_7 : decode cX3_firstError 7 = .ok (.ireturn, 1) := by decide +kernel
set_option maxRecDepth 20000 in
theorem ggX3_play_X2_isComplete : GoodIn wsX3_play wsX2_isComplete := goodIn_r _ [8, 9, 10, 11, 12, 7, 13, 14, 15, 16, 17, 18, 19, 20, 21, 22, 23, 24, 25, 26, 27, 28, 29, 171, 172] (by decide +kernel) (by decide +kernel)
set_option maxRecDepth 20000 in
theorem gX3_play_X2_isComplete : GoodIn wsX3_play (wsV RX3 118 RX2 yX2_isComplete wsX2_isComplete) := goodIn_app (goodIn_of _ (by decide +kernel)) ggX3_play_X2_isComplete
set_option maxRecDepth 20000 in
theorem ggX3_play_X3_requireArgument : GoodIn wsX3_play wsX3_requireArgument := goodIn_ca (goodIn_r _ [33, 34, 35] (by decide +kernel) (by decide +kernel)) (goodIn_sub (fun _ h => List.mem_cons_of_mem _ (List.mem_append_right _ h)) (by decide +kernel))
set_option maxRecDepth 20000 in
theorem gX3_play_X3_requireArgument : GoodIn wsX3_play (va_wsS RX3 80 yX3_requireArgument wsX3_requireArgument) := goodIn_app (goodIn_of _ (by decide +kernel)) ggX3_play_X3_requireArgument
set_option maxRecDepth 20000 in
theorem ggX3_play_X1_push : GoodIn wsX3_play wsX1_push := goodIn_r _ [40, 41, 42, 43, 44, 45, 46, 47, 48, 49, 50, 51, 39, 52, 53, 54, 55, 56, 57, 58, 173, 174, 175, 176, 177] (by decide +kernel) (by decide +kernel)
set_option maxRecDepth 20000 in
theorem gX3_play_X1_push : GoodIn wsX3_play (wsV RX3 46 RX1 yX1_push wsX1_push) := goodIn_app (goodIn_of _ (by decide +kernel)) ggX3_play_X1_push
set_option maxRecDepth 20000 in
theorem ggX3_play_X2_length : GoodIn wsX3_play wsX2_length := goodIn_r _ [62, 9, 171, 172] (by decide +kernel) (by decide +kernel)
set_option maxRecDepth 20000 in
theorem gX3_play_X2_length : GoodIn wsX3_play (wsV RX3 106 RX2 yX2_length wsX2_length) := goodIn_app (goodIn_of _ (by decide +kernel)) ggX3_play_X2_length
set_option maxRecDepth 20000 in
theorem ggX3_play_X2_isPartBegin : GoodIn wsX3_play wsX2_isPartBegin := goodIn_r _ [66, 10, 11, 12, 7, 13, 9, 14, 171, 172] (by decide +kernel) (by decide +kernel)
set_option maxRecDepth 20000 in
theorem gX3_play_X2_isPartBegin : GoodIn wsX3_play (wsV RX3 122 RX2 yX2_isPartBegin wsX2_isPartBegin) := goodIn_app (goodIn_of _ (by decide +kernel)) ggX3_play_X2_isPartBegin
set_option maxRecDepth 20000 in
theorem ggX3_play_X3_playPart : GoodIn wsX3_play wsX3_playPart := goodIn_r _ [70, 1, 3, 71, 11, 12, 7, 13, 9, 14, 72, 73, 74, 75, 10, 24, 25, 26, 76, 77, 78, 56, 79, 80, 81, 82, 83, 54, 55, 57, 58, 84, 85, 86, 87, 88, 89, 90, 91, 92, 93, 94, 95, 96, 97, 98, 99, 100, 101, 102, 103, 104, 105, 106, 107, 108, 109, 110, 111, 112, 113, 114, 115, 116, 117, 118, 119, 120, 121, 122, 123, 124, 125, 126, 127, 128, 45, 46, 47, 129, 130, 131, 132, 133, 134, 135, 136, 137, 138, 139, 140, 141, 142, 143, 144, 145, 146, 147, 148, 149, 150, 151, 152, 153, 154, 155, 156, 157, 158, 159, 160, 161, 166, 167, 168, 169, 170, 171, 172, 177] (by decide +kernel) (by decide +kernel)
set_option maxRecDepth 20000 in
theorem gX3_play_X3_playPart : GoodIn wsX3_play (wsV RX3 126 RX3 yX3_playPart wsX3_playPart) := goodIn_app (goodIn_of _ (by decide +kernel)) ggX3_play_X3_playPart
set_option maxRecDepth 20000 in
theorem ggX3_play_X2_wipe : GoodIn wsX3_play wsX2_wipe := goodIn_r _ [165, 9, 171, 172] (by decide +kernel) (by decide +kernel)
set_option maxRecDepth 20000 in
theorem gX3_play_X2_wipe : GoodIn wsX3_play (wsV RX3 112 RX2 yX2_wipe wsX2_wipe) := goodIn_app (goodIn_of _ (by decide +kernel)) ggX3_play_X2_wipe
theorem dX3_play_0 : decode cX3_play 0 = .ok (.aload_n 0, 1) := by decide +kernel
theorem dX3_play_1 : decode cX3_play 1 = .ok (.getfield 34, 3) := by decide +kernel
theorem dX3_play_4 : decode cX3_play 4 = .ok (.invokevirtual 118, 3) := by decide +kernel
theorem dX3_play_7 : decode cX3_play 7 = .ok (.invokestatic 80, 3) := by decide +kernel
theorem dX3_play_10 : decode cX3_play 10 = .ok (.aload_n 0, 1) := by decide +kernel
theorem dX3_play_11 : decode cX3_play 11 = .ok (.getfield 24, 3) := by decide +kernel
theorem dX3_play_14 : decode cX3_play 14 = .ok (.aload_n 0, 1) := by decide +kernel
theorem dX3_play_15 : decode cX3_play 15 = .ok (.getfield 12, 3) := by decide +kernel
theorem dX3_play_18 : decode cX3_play 18 = .ok (.invokevirtual 46, 3) := by decide +kernel
theorem dX3_play_21 : decode cX3_play 21 = .ok (.iconst 0, 1) := by decide +kernel
theorem dX3_play_22 : decode cX3_play 22 = .ok (.istore_n 1, 1) := by decide +kernel
theorem dX3_play_23 : decode cX3_play 23 = .ok (.iconst 0, 1) := by decide +kernel
theorem dX3_play_24 : decode cX3_play 24 = .ok (.istore_n 2, 1) := by decide +kernel
theorem dX3_play_25 : decode cX3_play 25 = .ok (.iload_n 2, 1) := by decide +kernel
theorem dX3_play_26 : decode cX3_play 26 = .ok (.aload_n 0, 1) := by decide +kernel
theorem dX3_play_27 : decode cX3_play 27 = .ok (.getfield 34, 3) := by decide +kernel
theorem dX3_play_30 : decode cX3_play 30 = .ok (.invokevirtual 106, 3) := by decide +kernel
theorem dX3_play_33 : decode cX3_play 33 = .ok (.if_icmp .ge 34, 3) := by decide +kernel
theorem dX3_play_36 : decode cX3_play 36 = .ok (.aload_n 0, 1) := by decide +kernel
theorem dX3_play_37 : decode cX3_play 37 = .ok (.getfield 34, 3) := by decide +kernel
theorem dX3_play_40 : decode cX3_play 40 = .ok (.iload_n 2, 1) := by decide +kernel
theorem dX3_play_41 : decode cX3_play 41 = .ok (.invokevirtual 122, 3) := by decide +kernel
theorem dX3_play_44 : decode cX3_play 44 = .ok (.ifCond .eq 17, 3) := by decide +kernel
theorem dX3_play_47 : decode cX3_play 47 = .ok (.aload_n 0, 1) := by decide +kernel
theorem dX3_play_48 : decode cX3_play 48 = .ok (.iload_n 2, 1) := by decide +kernel
theorem dX3_play_49 : decode cX3_play 49 = .ok (.invokevirtual 126, 3) := by decide +kernel
theorem dX3_play_52 : decode cX3_play 52 = .ok (.ifCond .ne 6, 3) := by decide +kernel
theorem dX3_play_55 : decode cX3_play 55 = .ok (.goto 12, 3) := by decide +kernel
theorem dX3_play_58 : decode cX3_play 58 = .ok (.iinc 1 1, 3) := by decide +kernel
theorem dX3_play_61 : decode cX3_play 61 = .ok (.iinc 2 1, 3) := by decide +kernel
theorem dX3_play_64 : decode cX3_play 64 = .ok (.goto (-39), 3) := by decide +kernel
theorem dX3_play_67 : decode cX3_play 67 = .ok (.aload_n 0, 1) := by decide +kernel
theorem dX3_play_68 : decode cX3_play 68 = .ok (.getfield 34, 3) := by decide +kernel
theorem dX3_play_71 : decode cX3_play 71 = .ok (.invokevirtual 112, 3) := by decide +kernel
theorem dX3_play_74 : decode cX3_play 74 = .ok (.iload_n 1, 1) := by decide +kernel
theorem dX3_play_75 : decode cX3_play 75 = .ok (.ireturn, 1) := by decide +kernel
set_option maxRecDepth 20000 in
theorem ggX3_undo_X1_size : GoodIn wsX3_undo wsX1_size := goodIn_r _ [7, 8, 45, 46, 47, 48] (by decide +kernel) (by decide +kernel)
set_option maxRecDepth 20000 in
theorem gX3_undo_X1_size : GoodIn wsX3_undo (wsV RX3 129 RX1 yX1_size wsX1_size) := goodIn_app (goodIn_of _ (by decide +kernel)) ggX3_undo_X1_size
set_option maxRecDepth 20000 in
theorem ggX3_undo_X3_requireState : GoodIn wsX3_undo wsX3_requireState := goodIn_ca (goodIn_r _ [12, 13, 14] (by decide +kernel) (by decide +kernel)) (goodIn_sub (fun _ h => List.mem_cons_of_mem _ (List.mem_append_right _ h)) (by decide +kernel))
set_option maxRecDepth 20000 in
theorem gX3_undo_X3_requireState : GoodIn wsX3_undo (va_wsS RX3 60 yX3_requireState wsX3_requireState) := goodIn_app (goodIn_of _ (by decide +kernel)) ggX3_undo_X3_requireState
set_option maxRecDepth 20000 in
theorem ggX3_undo_X1_showTop : GoodIn wsX3_undo wsX1_showTop := goodIn_r _ [18, 19, 20, 21, 22, 23, 6, 24, 25, 26, 27, 28, 29, 30, 45, 46, 47, 48, 49] (by decide +kernel) (by decide +kernel)
set_option maxRecDepth 20000 in
theorem gX3_undo_X1_showTop : GoodIn wsX3_undo (wsV RX3 132 RX1 yX1_showTop wsX1_showTop) := goodIn_app (goodIn_of _ (by decide +kernel)) ggX3_undo_X1_showTop
set_option maxRecDepth 20000 in
theorem ggX3_undo_X1_dropTop : GoodIn wsX3_undo wsX1_dropTop := goodIn_r _ [34, 19, 35, 8, 36, 37, 38, 39, 45, 46, 47, 48] (by decide +kernel) (by decide +kernel)
set_option maxRecDepth 20000 in
theorem gX3_undo_X1_dropTop : GoodIn wsX3_undo (wsV RX3 135 RX1 yX1_dropTop wsX1_dropTop) := goodIn_app (goodIn_of _ (by decide +kernel)) ggX3_undo_X1_dropTop
theorem dX3_undo_0 : decode cX3_undo 0 = .ok (.aload_n 0, 1) := by decide +kernel
theorem dX3_undo_1 : decode cX3_undo 1 = .ok (.getfield 24, 3) := by decide +kernel
theorem dX3_undo_4 : decode cX3_undo 4 = .ok (.invokevirtual 129, 3) := by decide +kernel
theorem dX3_undo_7 : decode cX3_undo 7 = .ok (.ifCond .le 7, 3) := by decide +kernel
theorem dX3_undo_10 : decode cX3_undo 10 = .ok (.iconst 1, 1) := by decide +kernel
theorem dX3_undo_11 : decode cX3_undo 11 = .ok (.goto 4, 3) := by decide +kernel
theorem dX3_undo_14 : decode cX3_undo 14 = .ok (.iconst 0, 1) := by decide +kernel
theorem dX3_undo_15 : decode cX3_undo 15 = .ok (.invokestatic 60, 3) := by decide +kernel
theorem dX3_undo_18 : decode cX3_undo 18 = .ok (.aload_n 0, 1) := by decide +kernel
theorem dX3_undo_19 : decode cX3_undo 19 = .ok (.getfield 24, 3) := by decide +kernel
theorem dX3_undo_22 : decode cX3_undo 22 = .ok (.aload_n 0, 1) := by decide +kernel
theorem dX3_undo_23 : decode cX3_undo 23 = .ok (.getfield 12, 3) := by decide +kernel
theorem dX3_undo_26 : decode cX3_undo 26 = .ok (.invokevirtual 132, 3) := by decide +kernel
theorem dX3_undo_29 : decode cX3_undo 29 = .ok (.aload_n 0, 1) := by decide +kernel
theorem dX3_undo_30 : decode cX3_undo 30 = .ok (.getfield 24, 3) := by decide +kernel
theorem dX3_undo_33 : decode cX3_undo 33 = .ok (.invokevirtual 135, 3) := by decide +kernel
theorem dX3_undo_36 : decode cX3_undo 36 = .ok (.aload_n 0, 1) := by decide +kernel
theorem dX3_undo_37 : decode cX3_undo 37 = .ok (.getfield 24, 3) := by decide +kernel
theorem dX3_undo_40 : decode cX3_undo 40 = .ok (.invokevirtual 129, 3) := by decide +kernel
theorem dX3_undo_43 : decode cX3_undo 43 = .ok (.ireturn, 1) := by decide +kernel
set_option maxRecDepth 20000 in
theorem ggX3_keep_X1_push : GoodIn wsX3_keep wsX1_push := goodIn_r _ [7, 8, 9, 10, 11, 12, 13, 14, 15, 16, 17, 18, 6, 19, 20, 21, 22, 23, 24, 25, 32, 33, 34, 35, 36] (by decide +kernel) (by decide +kernel)
set_option maxRecDepth 20000 in
theorem gX3_keep_X1_push : GoodIn wsX3_keep (wsV RX3 46 RX1 yX1_push wsX1_push) := goodIn_app (goodIn_of _ (by decide +kernel)) ggX3_keep_X1_push
set_option maxRecDepth 20000 in
theorem ggX3_keep_X0_at : GoodIn wsX3_keep wsX0_at := goodIn_r _ [24, 25, 36] (by decide +kernel) (by decide +kernel)
set_option maxRecDepth 20000 in
theorem gX3_keep_X0_at : GoodIn wsX3_keep (wsV RX3 86 RX0 yX0_at wsX0_at) := goodIn_app (goodIn_of _ (by decide +kernel)) ggX3_keep_X0_at
theorem dX3_keep_0 : decode cX3_keep 0 = .ok (.aload_n 0, 1) := by decide +kernel
theorem dX3_keep_1 : decode cX3_keep 1 = .ok (.getfield 28, 3) := by decide +kernel
theorem dX3_keep_4 : decode cX3_keep 4 = .ok (.aload_n 0, 1) := by decide +kernel
theorem dX3_keep_5 : decode cX3_keep 5 = .ok (.getfield 12, 3) := by decide +kernel
theorem dX3_keep_8 : decode cX3_keep 8 = .ok (.invokevirtual 46, 3) := by decide +kernel
theorem dX3_keep_11 : decode cX3_keep 11 = .ok (.aload_n 0, 1) := by decide +kernel
theorem dX3_keep_12 : decode cX3_keep 12 = .ok (.getfield 12, 3) := by decide +kernel
theorem dX3_keep_15 : decode cX3_keep 15 = .ok (.iconst 0, 1) := by decide +kernel
theorem dX3_keep_16 : decode cX3_keep 16 = .ok (.invokevirtual 86, 3) := by decide +kernel
theorem dX3_keep_19 : decode cX3_keep 19 = .ok (.ireturn, 1) := by decide +kernel
set_option maxRecDepth 20000 in
theorem ggX3_restore_X1_size : GoodIn wsX3_restore wsX1_size := goodIn_r _ [8, 9, 51, 52, 53, 54] (by decide +kernel) (by decide +kernel)
set_option maxRecDepth 20000 in
theorem gX3_restore_X1_size : GoodIn wsX3_restore (wsV RX3 129 RX1 yX1_size wsX1_size) := goodIn_app (goodIn_of _ (by decide +kernel)) ggX3_restore_X1_size
set_option maxRecDepth 20000 in
theorem ggX3_restore_X3_requireState : GoodIn wsX3_restore wsX3_requireState := goodIn_ca (goodIn_r _ [13, 14, 15] (by decide +kernel) (by decide +kernel)) (goodIn_sub (fun _ h => List.mem_cons_of_mem _ (List.mem_append_right _ h)) (by decide +kernel))
set_option maxRecDepth 20000 in
theorem gX3_restore_X3_requireState : GoodIn wsX3_restore (va_wsS RX3 60 yX3_requireState wsX3_requireState) := goodIn_app (goodIn_of _ (by decide +kernel)) ggX3_restore_X3_requireState
set_option maxRecDepth 20000 in
theorem ggX3_restore_X1_push : GoodIn wsX3_restore wsX1_push := goodIn_r _ [19, 20, 21, 9, 22, 23, 24, 25, 26, 27, 28, 29, 7, 30, 31, 32, 33, 34, 35, 36, 51, 52, 53, 54, 55] (by decide +kernel) (by decide +kernel)
set_option maxRecDepth 20000 in
theorem gX3_restore_X1_push : GoodIn wsX3_restore (wsV RX3 46 RX1 yX1_push wsX1_push) := goodIn_app (goodIn_of _ (by decide +kernel)) ggX3_restore_X1_push
set_option maxRecDepth 20000 in
theorem ggX3_restore_X1_showTop : GoodIn wsX3_restore wsX1_showTop := goodIn_r _ [40, 20, 26, 27, 28, 29, 7, 30, 41, 42, 43, 34, 44, 36, 51, 52, 53, 54, 55] (by decide +kernel) (by decide +kernel)
set_option maxRecDepth 20000 in
theorem gX3_restore_X1_showTop : GoodIn wsX3_restore (wsV RX3 132 RX1 yX1_showTop wsX1_showTop) := goodIn_app (goodIn_of _ (by decide +kernel)) ggX3_restore_X1_showTop
set_option maxRecDepth 20000 in
theorem ggX3_restore_X0_at : GoodIn wsX3_restore wsX0_at := goodIn_r _ [35, 36, 55] (by decide +kernel) (by decide +kernel)
set_option maxRecDepth 20000 in
theorem gX3_restore_X0_at : GoodIn wsX3_restore (wsV RX3 86 RX0 yX0_at wsX0_at) := goodIn_app (goodIn_of _ (by decide +kernel)) ggX3_restore_X0_at
theorem dX3_restore_0 : decode cX3_restore 0 = .ok (.aload_n 0, 1) := by decide +kernel
theorem dX3_restore_1 : decode cX3_restore 1 = .ok (.getfield 28, 3) := by decide +kernel
theorem dX3_restore_4 : decode cX3_restore 4 = .ok (.invokevirtual 129, 3) := by decide +kernel
theorem dX3_restore_7 : decode cX3_restore 7 = .ok (.ifCond .le 7, 3) := by decide +kernel
theorem dX3_restore_10 : decode cX3_restore 10 = .ok (.iconst 1, 1) := by decide +kernel
theorem dX3_restore_11 : decode cX3_restore 11 = .ok (.goto 4, 3) := by decide +kernel
theorem dX3_restore_14 : decode cX3_restore 14 = .ok (.iconst 0, 1) := by decide +kernel
theorem dX3_restore_15 : decode cX3_restore 15 = .ok (.invokestatic 60, 3) := by decide +kernel
theorem dX3_restore_18 : decode cX3_restore 18 = .ok (.aload_n 0, 1) := by decide +kernel
theorem dX3_restore_19 : decode cX3_restore 19 = .ok (.getfield 24, 3) := by decide +kernel
theorem dX3_restore_22 : decode cX3_restore 22 = .ok (.aload_n 0, 1) := by decide +kernel
theorem dX3_restore_23 : decode cX3_restore 23 = .ok (.getfield 12, 3) := by decide +kernel
theorem dX3_restore_26 : decode cX3_restore 26 = .ok (.invokevirtual 46, 3) := by decide +kernel
theorem dX3_restore_29 : decode cX3_restore 29 = .ok (.aload_n 0, 1) := by decide +kernel
theorem dX3_restore_30 : decode cX3_restore 30 = .ok (.getfield 28, 3) := by decide +kernel
theorem dX3_restore_33 : decode cX3_restore 33 = .ok (.aload_n 0, 1) := by decide +kernel
theorem dX3_restore_34 : decode cX3_restore 34 = .ok (.getfield 12, 3) := by decide +kernel
theorem dX3_restore_37 : decode cX3_restore 37 = .ok (.invokevirtual 132, 3) := by decide +kernel
theorem dX3_restore_40 : decode cX3_restore 40 = .ok (.aload_n 0, 1) := by decide +kernel
theorem dX3_restore_41 : decode cX3_restore 41 = .ok (.getfield 12, 3) := by decide +kernel
theorem dX3_restore_44 : decode cX3_restore 44 = .ok (.iconst 0, 1) := by decide +kernel
theorem dX3_restore_45 : decode cX3_restore 45 = .ok (.invokevirtual 86, 3) := by decide +kernel
theorem dX3_restore_48 : decode cX3_restore 48 = .ok (.ireturn, 1) := by decide +kernel
set_option maxRecDepth 20000 in
theorem ggX3_hearthOf_X3_requireIndex : GoodIn wsX3_hearthOf wsX3_requireIndex := goodIn_ca (goodIn_r _ [5, 6, 7] (by decide +kernel) (by decide +kernel)) (goodIn_sub (fun _ h => List.mem_cons_of_mem _ (List.mem_append_left _ (List.mem_append_right _ h))) (by decide +kernel))
set_option maxRecDepth 20000 in
theorem gX3_hearthOf_X3_requireIndex : GoodIn wsX3_hearthOf (va_wsS RX3 38 yX3_requireIndex wsX3_requireIndex) := goodIn_app (goodIn_of _ (by decide +kernel)) ggX3_hearthOf_X3_requireIndex
set_option maxRecDepth 20000 in
theorem ggX3_hearthOf_X3_requireRange : GoodIn wsX3_hearthOf wsX3_requireRange := goodIn_ca (goodIn_r _ [10, 11, 12, 4, 13, 14, 15] (by decide +kernel) (by decide +kernel)) (goodIn_sub (fun _ h => List.mem_cons_of_mem _ (List.mem_append_right _ h)) (by decide +kernel))
set_option maxRecDepth 20000 in
theorem gX3_hearthOf_X3_requireRange : GoodIn wsX3_hearthOf (va_wsS RX3 42 yX3_requireRange wsX3_requireRange) := goodIn_app (goodIn_of _ (by decide +kernel)) ggX3_hearthOf_X3_requireRange
set_option maxRecDepth 20000 in
theorem ggX3_hearthOf_X0_ofHearth : GoodIn wsX3_hearthOf wsX0_ofHearth := goodIn_r _ [20, 21, 22, 23, 19, 24, 25, 26, 27, 28, 29, 30, 31, 32, 33, 34, 35, 36, 37, 38, 39, 40, 41, 42, 43, 44, 45, 46, 47, 48, 54] (by decide +kernel) (by decide +kernel)
set_option maxRecDepth 20000 in
theorem gX3_hearthOf_X0_ofHearth : GoodIn wsX3_hearthOf (wsV RX3 138 RX0 yX0_ofHearth wsX0_ofHearth) := goodIn_app (goodIn_of _ (by decide +kernel)) ggX3_hearthOf_X0_ofHearth
theorem dX3_hearthOf_0 : decode cX3_hearthOf 0 = .ok (.iload_n 1, 1) := by decide +kernel
theorem dX3_hearthOf_1 : decode cX3_hearthOf 1 = .ok (.iconst 5, 1) := by decide +kernel
theorem dX3_hearthOf_2 : decode cX3_hearthOf 2 = .ok (.invokestatic 38, 3) := by decide +kernel
theorem dX3_hearthOf_5 : decode cX3_hearthOf 5 = .ok (.iload_n 2, 1) := by decide +kernel
theorem dX3_hearthOf_6 : decode cX3_hearthOf 6 = .ok (.iconst 0, 1) := by decide +kernel
theorem dX3_hearthOf_7 : decode cX3_hearthOf 7 = .ok (.bipush 11, 2) := by decide +kernel
theorem dX3_hearthOf_9 : decode cX3_hearthOf 9 = .ok (.invokestatic 42, 3) := by decide +kernel
theorem dX3_hearthOf_12 : decode cX3_hearthOf 12 = .ok (.aload_n 0, 1) := by decide +kernel
theorem dX3_hearthOf_13 : decode cX3_hearthOf 13 = .ok (.getfield 12, 3) := by decide +kernel
theorem dX3_hearthOf_16 : decode cX3_hearthOf 16 = .ok (.iload_n 1, 1) := by decide +kernel
theorem dX3_hearthOf_17 : decode cX3_hearthOf 17 = .ok (.iload_n 2, 1) := by decide +kernel
theorem dX3_hearthOf_18 : decode cX3_hearthOf 18 = .ok (.invokevirtual 138, 3) := by decide +kernel
theorem dX3_hearthOf_21 : decode cX3_hearthOf 21 = .ok (.ireturn, 1) := by decide +kernel
set_option maxRecDepth 20000 in
theorem ggX3_bankOf_X3_requireIndex : GoodIn wsX3_bankOf wsX3_requireIndex := goodIn_ca (goodIn_r _ [5, 6, 7] (by decide +kernel) (by decide +kernel)) (goodIn_sub (fun _ h => List.mem_cons_of_mem _ (List.mem_append_left _ (List.mem_append_right _ h))) (by decide +kernel))
set_option maxRecDepth 20000 in
theorem gX3_bankOf_X3_requireIndex : GoodIn wsX3_bankOf (va_wsS RX3 38 yX3_requireIndex wsX3_requireIndex) := goodIn_app (goodIn_of _ (by decide +kernel)) ggX3_bankOf_X3_requireIndex
set_option maxRecDepth 20000 in
theorem ggX3_bankOf_X3_requireRange : GoodIn wsX3_bankOf wsX3_requireRange := goodIn_ca (goodIn_r _ [10, 11, 12, 4, 13, 14, 15] (by decide +kernel) (by decide +kernel)) (goodIn_sub (fun _ h => List.mem_cons_of_mem _ (List.mem_append_right _ h)) (by decide +kernel))
set_option maxRecDepth 20000 in
theorem gX3_bankOf_X3_requireRange : GoodIn wsX3_bankOf (va_wsS RX3 42 yX3_requireRange wsX3_requireRange) := goodIn_app (goodIn_of _ (by decide +kernel)) ggX3_bankOf_X3_requireRange
set_option maxRecDepth 20000 in
theorem ggX3_bankOf_X0_ofBank : GoodIn wsX3_bankOf wsX0_ofBank := goodIn_r _ [20, 21, 22, 23, 19, 24, 25, 26, 27, 28, 29, 30, 31, 32, 33, 34, 35, 36, 37, 38, 39, 40, 46] (by decide +kernel) (by decide +kernel)
set_option maxRecDepth 20000 in
theorem gX3_bankOf_X0_ofBank : GoodIn wsX3_bankOf (wsV RX3 141 RX0 yX0_ofBank wsX0_ofBank) := goodIn_app (goodIn_of _ (by decide +kernel)) ggX3_bankOf_X0_ofBank
theorem dX3_bankOf_0 : decode cX3_bankOf 0 = .ok (.iload_n 1, 1) := by decide +kernel
theorem dX3_bankOf_1 : decode cX3_bankOf 1 = .ok (.iconst 4, 1) := by decide +kernel
theorem dX3_bankOf_2 : decode cX3_bankOf 2 = .ok (.invokestatic 38, 3) := by decide +kernel
theorem dX3_bankOf_5 : decode cX3_bankOf 5 = .ok (.iload_n 2, 1) := by decide +kernel
theorem dX3_bankOf_6 : decode cX3_bankOf 6 = .ok (.iconst 0, 1) := by decide +kernel
theorem dX3_bankOf_7 : decode cX3_bankOf 7 = .ok (.iconst 4, 1) := by decide +kernel
theorem dX3_bankOf_8 : decode cX3_bankOf 8 = .ok (.invokestatic 42, 3) := by decide +kernel
theorem dX3_bankOf_11 : decode cX3_bankOf 11 = .ok (.aload_n 0, 1) := by decide +kernel
theorem dX3_bankOf_12 : decode cX3_bankOf 12 = .ok (.getfield 12, 3) := by decide +kernel
theorem dX3_bankOf_15 : decode cX3_bankOf 15 = .ok (.iload_n 1, 1) := by decide +kernel
theorem dX3_bankOf_16 : decode cX3_bankOf 16 = .ok (.iload_n 2, 1) := by decide +kernel
theorem dX3_bankOf_17 : decode cX3_bankOf 17 = .ok (.invokevirtual 141, 3) := by decide +kernel
theorem dX3_bankOf_20 : decode cX3_bankOf 20 = .ok (.ireturn, 1) := by decide +kernel
set_option maxRecDepth 20000 in
theorem ggX3_plot_X3_requireIndex : GoodIn wsX3_plot wsX3_requireIndex := goodIn_ca (goodIn_r _ [5, 6, 7] (by decide +kernel) (by decide +kernel)) (goodIn_sub (fun _ h => List.mem_cons_of_mem _ (List.mem_append_left _ (List.mem_append_right _ h))) (by decide +kernel))
set_option maxRecDepth 20000 in
theorem gX3_plot_X3_requireIndex : GoodIn wsX3_plot (va_wsS RX3 38 yX3_requireIndex wsX3_requireIndex) := goodIn_app (goodIn_of _ (by decide +kernel)) ggX3_plot_X3_requireIndex
set_option maxRecDepth 20000 in
theorem ggX3_plot_X3_requireRange : GoodIn wsX3_plot wsX3_requireRange := goodIn_ca (goodIn_r _ [10, 11, 12, 4, 13, 14, 15] (by decide +kernel) (by decide +kernel)) (goodIn_sub (fun _ h => List.mem_cons_of_mem _ (List.mem_append_right _ h)) (by decide +kernel))
set_option maxRecDepth 20000 in
theorem gX3_plot_X3_requireRange : GoodIn wsX3_plot (va_wsS RX3 42 yX3_requireRange wsX3_requireRange) := goodIn_app (goodIn_of _ (by decide +kernel)) ggX3_plot_X3_requireRange
set_option maxRecDepth 20000 in
theorem ggX3_plot_X0_ofPlot : GoodIn wsX3_plot wsX0_ofPlot := goodIn_r _ [20, 21, 22, 19, 23, 24, 25, 26, 27, 28, 29, 30, 31, 32, 38] (by decide +kernel) (by decide +kernel)
set_option maxRecDepth 20000 in
theorem gX3_plot_X0_ofPlot : GoodIn wsX3_plot (wsV RX3 144 RX0 yX0_ofPlot wsX0_ofPlot) := goodIn_app (goodIn_of _ (by decide +kernel)) ggX3_plot_X0_ofPlot
theorem dX3_plot_0 : decode cX3_plot 0 = .ok (.iload_n 1, 1) := by decide +kernel
theorem dX3_plot_1 : decode cX3_plot 1 = .ok (.iconst 5, 1) := by decide +kernel
theorem dX3_plot_2 : decode cX3_plot 2 = .ok (.invokestatic 38, 3) := by decide +kernel
theorem dX3_plot_5 : decode cX3_plot 5 = .ok (.iload_n 2, 1) := by decide +kernel
theorem dX3_plot_6 : decode cX3_plot 6 = .ok (.iconst 4, 1) := by decide +kernel
theorem dX3_plot_7 : decode cX3_plot 7 = .ok (.invokestatic 38, 3) := by decide +kernel
theorem dX3_plot_10 : decode cX3_plot 10 = .ok (.iload_n 3, 1) := by decide +kernel
theorem dX3_plot_11 : decode cX3_plot 11 = .ok (.iconst 0, 1) := by decide +kernel
theorem dX3_plot_12 : decode cX3_plot 12 = .ok (.iconst 4, 1) := by decide +kernel
theorem dX3_plot_13 : decode cX3_plot 13 = .ok (.invokestatic 42, 3) := by decide +kernel
theorem dX3_plot_16 : decode cX3_plot 16 = .ok (.aload_n 0, 1) := by decide +kernel
theorem dX3_plot_17 : decode cX3_plot 17 = .ok (.getfield 12, 3) := by decide +kernel
theorem dX3_plot_20 : decode cX3_plot 20 = .ok (.iload_n 1, 1) := by decide +kernel
theorem dX3_plot_21 : decode cX3_plot 21 = .ok (.iload_n 2, 1) := by decide +kernel
theorem dX3_plot_22 : decode cX3_plot 22 = .ok (.iload_n 3, 1) := by decide +kernel
theorem dX3_plot_23 : decode cX3_plot 23 = .ok (.invokevirtual 144, 3) := by decide +kernel
theorem dX3_plot_26 : decode cX3_plot 26 = .ok (.ireturn, 1) := by decide +kernel
set_option maxRecDepth 20000 in
theorem ggX3_cutter_X3_requireIndex : GoodIn wsX3_cutter wsX3_requireIndex := goodIn_ca (goodIn_r _ [5, 6, 7] (by decide +kernel) (by decide +kernel)) (goodIn_sub (fun _ h => List.mem_cons_of_mem _ (List.mem_append_left _ (List.mem_append_right _ h))) (by decide +kernel))
set_option maxRecDepth 20000 in
theorem gX3_cutter_X3_requireIndex : GoodIn wsX3_cutter (va_wsS RX3 38 yX3_requireIndex wsX3_requireIndex) := goodIn_app (goodIn_of _ (by decide +kernel)) ggX3_cutter_X3_requireIndex
set_option maxRecDepth 20000 in
theorem ggX3_cutter_X3_requireRange : GoodIn wsX3_cutter wsX3_requireRange := goodIn_ca (goodIn_r _ [10, 11, 12, 4, 13, 14, 15] (by decide +kernel) (by decide +kernel)) (goodIn_sub (fun _ h => List.mem_cons_of_mem _ (List.mem_append_right _ h)) (by decide +kernel))
set_option maxRecDepth 20000 in
theorem gX3_cutter_X3_requireRange : GoodIn wsX3_cutter (va_wsS RX3 42 yX3_requireRange wsX3_requireRange) := goodIn_app (goodIn_of _ (by decide +kernel)) ggX3_cutter_X3_requireRange
set_option maxRecDepth 20000 in
theorem ggX3_cutter_X0_ofCutter : GoodIn wsX3_cutter wsX0_ofCutter := goodIn_r _ [20, 21, 22, 23, 19, 24, 25, 31] (by decide +kernel) (by decide +kernel)
set_option maxRecDepth 20000 in
theorem gX3_cutter_X0_ofCutter : GoodIn wsX3_cutter (wsV RX3 148 RX0 yX0_ofCutter wsX0_ofCutter) := goodIn_app (goodIn_of _ (by decide +kernel)) ggX3_cutter_X0_ofCutter
theorem dX3_cutter_0 : decode cX3_cutter 0 = .ok (.iload_n 1, 1) := by decide +kernel
theorem dX3_cutter_1 : decode cX3_cutter 1 = .ok (.bipush 6, 2) := by decide +kernel
theorem dX3_cutter_3 : decode cX3_cutter 3 = .ok (.invokestatic 38, 3) := by decide +kernel
theorem dX3_cutter_6 : decode cX3_cutter 6 = .ok (.iload_n 2, 1) := by decide +kernel
theorem dX3_cutter_7 : decode cX3_cutter 7 = .ok (.iconst 0, 1) := by decide +kernel
theorem dX3_cutter_8 : decode cX3_cutter 8 = .ok (.iconst 3, 1) := by decide +kernel
theorem dX3_cutter_9 : decode cX3_cutter 9 = .ok (.invokestatic 42, 3) := by decide +kernel
theorem dX3_cutter_12 : decode cX3_cutter 12 = .ok (.aload_n 0, 1) := by decide +kernel
theorem dX3_cutter_13 : decode cX3_cutter 13 = .ok (.getfield 12, 3) := by decide +kernel
theorem dX3_cutter_16 : decode cX3_cutter 16 = .ok (.iload_n 1, 1) := by decide +kernel
theorem dX3_cutter_17 : decode cX3_cutter 17 = .ok (.iload_n 2, 1) := by decide +kernel
theorem dX3_cutter_18 : decode cX3_cutter 18 = .ok (.invokevirtual 148, 3) := by decide +kernel
theorem dX3_cutter_21 : decode cX3_cutter 21 = .ok (.ireturn, 1) := by decide +kernel
set_option maxRecDepth 20000 in
theorem ggX3_rain_X3_requireArgument : GoodIn wsX3_rain wsX3_requireArgument := goodIn_ca (goodIn_r _ [5, 6, 7] (by decide +kernel) (by decide +kernel)) (goodIn_sub (fun _ h => List.mem_cons_of_mem _ (List.mem_append_right _ h)) (by decide +kernel))
set_option maxRecDepth 20000 in
theorem gX3_rain_X3_requireArgument : GoodIn wsX3_rain (va_wsS RX3 80 yX3_requireArgument wsX3_requireArgument) := goodIn_app (goodIn_of _ (by decide +kernel)) ggX3_rain_X3_requireArgument
set_option maxRecDepth 20000 in
theorem ggX3_rain_X0_rainOf : GoodIn wsX3_rain wsX0_rainOf := goodIn_r _ [12, 13, 14, 15, 16, 17, 18, 19, 11, 20, 21, 27] (by decide +kernel) (by decide +kernel)
set_option maxRecDepth 20000 in
theorem gX3_rain_X0_rainOf : GoodIn wsX3_rain (wsV RX3 151 RX0 yX0_rainOf wsX0_rainOf) := goodIn_app (goodIn_of _ (by decide +kernel)) ggX3_rain_X0_rainOf
theorem dX3_rain_0 : decode cX3_rain 0 = .ok (.iload_n 1, 1) := by decide +kernel
theorem dX3_rain_1 : decode cX3_rain 1 = .ok (.ifCond .lt 7, 3) := by decide +kernel
theorem dX3_rain_4 : decode cX3_rain 4 = .ok (.iconst 1, 1) := by decide +kernel
theorem dX3_rain_5 : decode cX3_rain 5 = .ok (.goto 4, 3) := by decide +kernel
theorem dX3_rain_8 : decode cX3_rain 8 = .ok (.iconst 0, 1) := by decide +kernel
theorem dX3_rain_9 : decode cX3_rain 9 = .ok (.invokestatic 80, 3) := by decide +kernel
theorem dX3_rain_12 : decode cX3_rain 12 = .ok (.aload_n 0, 1) := by decide +kernel
theorem dX3_rain_13 : decode cX3_rain 13 = .ok (.getfield 12, 3) := by decide +kernel
theorem dX3_rain_16 : decode cX3_rain 16 = .ok (.iload_n 1, 1) := by decide +kernel
theorem dX3_rain_17 : decode cX3_rain 17 = .ok (.invokevirtual 151, 3) := by decide +kernel
theorem dX3_rain_20 : decode cX3_rain 20 = .ok (.ireturn, 1) := by decide +kernel
set_option maxRecDepth 20000 in
theorem ggX3_count_X3_requireRange : GoodIn wsX3_count wsX3_requireRange := goodIn_ca (goodIn_r _ [6, 7, 8, 5, 9, 10, 11] (by decide +kernel) (by decide +kernel)) (goodIn_sub (fun _ h => List.mem_cons_of_mem _ (List.mem_append_right _ h)) (by decide +kernel))
set_option maxRecDepth 20000 in
theorem gX3_count_X3_requireRange : GoodIn wsX3_count (va_wsS RX3 42 yX3_requireRange wsX3_requireRange) := goodIn_app (goodIn_of _ (by decide +kernel)) ggX3_count_X3_requireRange
set_option maxRecDepth 20000 in
theorem ggX3_count_X1_size : GoodIn wsX3_count wsX1_size := goodIn_r _ [16, 17, 80, 81, 82, 83] (by decide +kernel) (by decide +kernel)
set_option maxRecDepth 20000 in
theorem gX3_count_X1_size : GoodIn wsX3_count (wsV RX3 129 RX1 yX1_size wsX1_size) := goodIn_app (goodIn_of _ (by decide +kernel)) ggX3_count_X1_size
set_option maxRecDepth 20000 in
theorem ggX3_count_X0_ofAll : GoodIn wsX3_count wsX0_ofAll := goodIn_r _ [22, 23, 24, 25, 21, 26, 27, 28, 29, 30, 31, 32, 33, 34, 35, 36, 37, 38, 39, 40, 41, 42, 43, 44, 45, 46, 47, 48, 49, 50, 51, 52, 53, 54, 55, 56, 57, 58, 59, 60, 61, 62, 63, 64, 65, 66, 67, 68, 69, 70, 71, 72, 73, 74, 84] (by decide +kernel) (by decide +kernel)
set_option maxRecDepth 20000 in
theorem gX3_count_X0_ofAll : GoodIn wsX3_count (wsV RX3 154 RX0 yX0_ofAll wsX0_ofAll) := goodIn_app (goodIn_of _ (by decide +kernel)) ggX3_count_X0_ofAll
theorem dX3_count_0 : decode cX3_count 0 = .ok (.iload_n 1, 1) := by decide +kernel
theorem dX3_count_1 : decode cX3_count 1 = .ok (.iconst 0, 1) := by decide +kernel
theorem dX3_count_2 : decode cX3_count 2 = .ok (.bipush 12, 2) := by decide +kernel
theorem dX3_count_4 : decode cX3_count 4 = .ok (.invokestatic 42, 3) := by decide +kernel
theorem dX3_count_7 : decode cX3_count 7 = .ok (.iload_n 1, 1) := by decide +kernel
theorem dX3_count_8 : decode cX3_count 8 = .ok (.bipush 12, 2) := by decide +kernel
theorem dX3_count_10 : decode cX3_count 10 = .ok (.if_icmp .ne 13, 3) := by decide +kernel
theorem dX3_count_13 : decode cX3_count 13 = .ok (.aload_n 0, 1) := by decide +kernel
theorem dX3_count_14 : decode cX3_count 14 = .ok (.getfield 24, 3) := by decide +kernel
theorem dX3_count_17 : decode cX3_count 17 = .ok (.invokevirtual 129, 3) := by decide +kernel
theorem dX3_count_20 : decode cX3_count 20 = .ok (.goto 11, 3) := by decide +kernel
theorem dX3_count_23 : decode cX3_count 23 = .ok (.aload_n 0, 1) := by decide +kernel
theorem dX3_count_24 : decode cX3_count 24 = .ok (.getfield 12, 3) := by decide +kernel
theorem dX3_count_27 : decode cX3_count 27 = .ok (.iload_n 1, 1) := by decide +kernel
theorem dX3_count_28 : decode cX3_count 28 = .ok (.invokevirtual 154, 3) := by decide +kernel
theorem dX3_count_31 : decode cX3_count 31 = .ok (.ireturn, 1) := by decide +kernel
set_option maxRecDepth 20000 in
theorem ggX3_whyNot_X3_requireIndex : GoodIn wsX3_whyNot wsX3_requireIndex := goodIn_ca (goodIn_r _ [5, 6, 7] (by decide +kernel) (by decide +kernel)) (goodIn_sub (fun _ h => List.mem_cons_of_mem _ (List.mem_append_right _ h)) (by decide +kernel))
set_option maxRecDepth 20000 in
theorem gX3_whyNot_X3_requireIndex : GoodIn wsX3_whyNot (va_wsS RX3 38 yX3_requireIndex wsX3_requireIndex) := goodIn_app (goodIn_of _ (by decide +kernel)) ggX3_whyNot_X3_requireIndex
set_option maxRecDepth 20000 in
theorem ggX3_whyNot_X0_reasonAgainst : GoodIn wsX3_whyNot wsX0_reasonAgainst := goodIn_r _ [12, 13, 14, 11, 15, 16, 17, 18, 19, 20, 21, 22, 23, 24, 30] (by decide +kernel) (by decide +kernel)
set_option maxRecDepth 20000 in
theorem gX3_whyNot_X0_reasonAgainst : GoodIn wsX3_whyNot (wsV RX3 57 RX0 yX0_reasonAgainst wsX0_reasonAgainst) := goodIn_app (goodIn_of _ (by decide +kernel)) ggX3_whyNot_X0_reasonAgainst
theorem dX3_whyNot_0 : decode cX3_whyNot 0 = .ok (.iload_n 1, 1) := by decide +kernel
theorem dX3_whyNot_1 : decode cX3_whyNot 1 = .ok (.bipush 6, 2) := by decide +kernel
theorem dX3_whyNot_3 : decode cX3_whyNot 3 = .ok (.invokestatic 38, 3) := by decide +kernel
theorem dX3_whyNot_6 : decode cX3_whyNot 6 = .ok (.iload_n 2, 1) := by decide +kernel
theorem dX3_whyNot_7 : decode cX3_whyNot 7 = .ok (.iconst 5, 1) := by decide +kernel
theorem dX3_whyNot_8 : decode cX3_whyNot 8 = .ok (.invokestatic 38, 3) := by decide +kernel
theorem dX3_whyNot_11 : decode cX3_whyNot 11 = .ok (.iload_n 3, 1) := by decide +kernel
theorem dX3_whyNot_12 : decode cX3_whyNot 12 = .ok (.iconst 4, 1) := by decide +kernel
theorem dX3_whyNot_13 : decode cX3_whyNot 13 = .ok (.invokestatic 38, 3) := by decide +kernel
theorem dX3_whyNot_16 : decode cX3_whyNot 16 = .ok (.aload_n 0, 1) := by decide +kernel
theorem dX3_whyNot_17 : decode cX3_whyNot 17 = .ok (.getfield 12, 3) := by decide +kernel
theorem dX3_whyNot_20 : decode cX3_whyNot 20 = .ok (.iload_n 2, 1) := by decide +kernel
theorem dX3_whyNot_21 : decode cX3_whyNot 21 = .ok (.iload_n 3, 1) := by decide +kernel
theorem dX3_whyNot_22 : decode cX3_whyNot 22 = .ok (.invokevirtual 57, 3) := by decide +kernel
theorem dX3_whyNot_25 : decode cX3_whyNot 25 = .ok (.ireturn, 1) := by decide +kernel
set_option maxRecDepth 20000 in
theorem ggX3_ifPassed_X3_requireRange : GoodIn wsX3_ifPassed wsX3_requireRange := goodIn_ca (goodIn_r _ [6, 7, 8, 5, 9, 10, 11] (by decide +kernel) (by decide +kernel)) (goodIn_sub (fun _ h => List.mem_cons_of_mem _ (List.mem_append_right _ h)) (by decide +kernel))
set_option maxRecDepth 20000 in
theorem gX3_ifPassed_X3_requireRange : GoodIn wsX3_ifPassed (va_wsS RX3 42 yX3_requireRange wsX3_requireRange) := goodIn_app (goodIn_of _ (by decide +kernel)) ggX3_ifPassed_X3_requireRange
set_option maxRecDepth 20000 in
theorem ggX3_ifPassed_X0_copyFrom : GoodIn wsX3_ifPassed wsX0_copyFrom := goodIn_r _ [16, 17, 18, 19, 15, 20, 21, 22, 23, 24, 25, 108] (by decide +kernel) (by decide +kernel)
set_option maxRecDepth 20000 in
theorem gX3_ifPassed_X0_copyFrom : GoodIn wsX3_ifPassed (wsV RX3 157 RX0 yX0_copyFrom wsX0_copyFrom) := goodIn_app (goodIn_of _ (by decide +kernel)) ggX3_ifPassed_X0_copyFrom
set_option maxRecDepth 20000 in
theorem ggX3_ifPassed_X0_passDays : GoodIn wsX3_ifPassed wsX0_passDays := goodIn_r _ [29, 30, 31, 32, 15, 33, 17, 18, 19, 20, 21, 22, 23, 24, 25, 34, 35, 36, 37, 38, 39, 40, 41, 42, 43, 44, 45, 46, 47, 48, 49, 50, 51, 52, 53, 54, 55, 56, 57, 58, 59, 60, 61, 62, 63, 64, 65, 66, 67, 68, 69, 70, 71, 72, 73, 74, 75, 76, 77, 78, 79, 80, 81, 82, 83, 84, 85, 86, 87, 108] (by decide +kernel) (by decide +kernel)
set_option maxRecDepth 20000 in
theorem gX3_ifPassed_X0_passDays : GoodIn wsX3_ifPassed (wsV RX3 96 RX0 yX0_passDays wsX0_passDays) := goodIn_app (goodIn_of _ (by decide +kernel)) ggX3_ifPassed_X0_passDays
set_option maxRecDepth 20000 in
theorem ggX3_ifPassed_X0_hearthsShort : GoodIn wsX3_ifPassed wsX0_hearthsShort := goodIn_r _ [91, 92, 93, 94, 15, 95, 96, 97, 55, 98, 17, 18, 19, 20, 21, 108] (by decide +kernel) (by decide +kernel)
set_option maxRecDepth 20000 in
theorem gX3_ifPassed_X0_hearthsShort : GoodIn wsX3_ifPassed (wsV RX3 160 RX0 yX0_hearthsShort wsX0_hearthsShort) := goodIn_app (goodIn_of _ (by decide +kernel)) ggX3_ifPassed_X0_hearthsShort
set_option maxRecDepth 20000 in
theorem ggX3_ifPassed_X0_sum : GoodIn wsX3_ifPassed wsX0_sum := goodIn_r _ [102, 17, 18, 19, 15, 20, 21, 108] (by decide +kernel) (by decide +kernel)
set_option maxRecDepth 20000 in
theorem gX3_ifPassed_X0_sum : GoodIn wsX3_ifPassed (wsV RX3 163 RX0 yX0_sum wsX0_sum) := goodIn_app (goodIn_of _ (by decide +kernel)) ggX3_ifPassed_X0_sum
theorem dX3_ifPassed_0 : decode cX3_ifPassed 0 = .ok (.iload_n 1, 1) := by decide +kernel
theorem dX3_ifPassed_1 : decode cX3_ifPassed 1 = .ok (.iconst 1, 1) := by decide +kernel
theorem dX3_ifPassed_2 : decode cX3_ifPassed 2 = .ok (.bipush 60, 2) := by decide +kernel
theorem dX3_ifPassed_4 : decode cX3_ifPassed 4 = .ok (.invokestatic 42, 3) := by decide +kernel
theorem dX3_ifPassed_7 : decode cX3_ifPassed 7 = .ok (.iload_n 2, 1) := by decide +kernel
theorem dX3_ifPassed_8 : decode cX3_ifPassed 8 = .ok (.iconst 0, 1) := by decide +kernel
theorem dX3_ifPassed_9 : decode cX3_ifPassed 9 = .ok (.iconst 2, 1) := by decide +kernel
theorem dX3_ifPassed_10 : decode cX3_ifPassed 10 = .ok (.invokestatic 42, 3) := by decide +kernel
theorem dX3_ifPassed_13 : decode cX3_ifPassed 13 = .ok (.aload_n 0, 1) := by decide +kernel
theorem dX3_ifPassed_14 : decode cX3_ifPassed 14 = .ok (.getfield 16, 3) := by decide +kernel
theorem dX3_ifPassed_17 : decode cX3_ifPassed 17 = .ok (.aload_n 0, 1) := by decide +kernel
theorem dX3_ifPassed_18 : decode cX3_ifPassed 18 = .ok (.getfield 12, 3) := by decide +kernel
theorem dX3_ifPassed_21 : decode cX3_ifPassed 21 = .ok (.invokevirtual 157, 3) := by decide +kernel
theorem dX3_ifPassed_24 : decode cX3_ifPassed 24 = .ok (.aload_n 0, 1) := by decide +kernel
theorem dX3_ifPassed_25 : decode cX3_ifPassed 25 = .ok (.getfield 16, 3) := by decide +kernel
theorem dX3_ifPassed_28 : decode cX3_ifPassed 28 = .ok (.iload_n 1, 1) := by decide +kernel
theorem dX3_ifPassed_29 : decode cX3_ifPassed 29 = .ok (.invokevirtual 96, 3) := by decide +kernel
theorem dX3_ifPassed_32 : decode cX3_ifPassed 32 = .ok (.istore_n 3, 1) := by decide +kernel
theorem dX3_ifPassed_33 : decode cX3_ifPassed 33 = .ok (.iload_n 2, 1) := by decide +kernel
theorem dX3_ifPassed_34 : decode cX3_ifPassed 34 = .ok (.ifCond .ne 5, 3) := by decide +kernel
theorem dX3_ifPassed_37 : decode cX3_ifPassed 37 = .ok (.iload_n 3, 1) := by decide +kernel
theorem dX3_ifPassed_38 : decode cX3_ifPassed 38 = .ok (.ireturn, 1) := by decide +kernel
theorem dX3_ifPassed_39 : decode cX3_ifPassed 39 = .ok (.iload_n 2, 1) := by decide +kernel
theorem dX3_ifPassed_40 : decode cX3_ifPassed 40 = .ok (.iconst 1, 1) := by decide +kernel
theorem dX3_ifPassed_41 : decode cX3_ifPassed 41 = .ok (.if_icmp .ne 11, 3) := by decide +kernel
theorem dX3_ifPassed_44 : decode cX3_ifPassed 44 = .ok (.aload_n 0, 1) := by decide +kernel
theorem dX3_ifPassed_45 : decode cX3_ifPassed 45 = .ok (.getfield 16, 3) := by decide +kernel
theorem dX3_ifPassed_48 : decode cX3_ifPassed 48 = .ok (.invokevirtual 160, 3) := by decide +kernel
theorem dX3_ifPassed_51 : decode cX3_ifPassed 51 = .ok (.ireturn, 1) := by decide +kernel
theorem dX3_ifPassed_52 : decode cX3_ifPassed 52 = .ok (.aload_n 0, 1) := by decide +kernel
theorem dX3_ifPassed_53 : decode cX3_ifPassed 53 = .ok (.getfield 16, 3) := by decide +kernel
theorem dX3_ifPassed_56 : decode cX3_ifPassed 56 = .ok (.bipush 40, 2) := by decide +kernel
theorem dX3_ifPassed_58 : decode cX3_ifPassed 58 = .ok (.iconst 5, 1) := by decide +kernel
theorem dX3_ifPassed_59 : decode cX3_ifPassed 59 = .ok (.invokevirtual 163, 3) := by decide +kernel
theorem dX3_ifPassed_62 : decode cX3_ifPassed 62 = .ok (.aload_n 0, 1) := by decide +kernel
theorem dX3_ifPassed_63 : decode cX3_ifPassed 63 = .ok (.getfield 12, 3) := by decide +kernel
theorem dX3_ifPassed_66 : decode cX3_ifPassed 66 = .ok (.bipush 40, 2) := by decide +kernel
theorem dX3_ifPassed_68 : decode cX3_ifPassed 68 = .ok (.iconst 5, 1) := by decide +kernel
theorem dX3_ifPassed_69 : decode cX3_ifPassed 69 = .ok (.invokevirtual 163, 3) := by decide +kernel
theorem dX3_ifPassed_72 : decode cX3_ifPassed 72 = .ok (.isub, 1) := by decide +kernel
theorem dX3_ifPassed_73 : decode cX3_ifPassed 73 = .ok (.ireturn, 1) := by decide +kernel
set_option maxRecDepth 20000 in
theorem ggX3_enoughIn_X3_requireIndex : GoodIn wsX3_enoughIn wsX3_requireIndex := goodIn_ca (goodIn_r _ [6, 7, 8] (by decide +kernel) (by decide +kernel)) (goodIn_sub (fun _ h => List.mem_cons_of_mem _ (List.mem_append_right _ h)) (by decide +kernel))
set_option maxRecDepth 20000 in
theorem gX3_enoughIn_X3_requireIndex : GoodIn wsX3_enoughIn (va_wsS RX3 38 yX3_requireIndex wsX3_requireIndex) := goodIn_app (goodIn_of _ (by decide +kernel)) ggX3_enoughIn_X3_requireIndex
set_option maxRecDepth 20000 in
theorem ggX3_enoughIn_X0_copyFrom : GoodIn wsX3_enoughIn wsX0_copyFrom := goodIn_r _ [13, 14, 15, 16, 12, 17, 18, 19, 20, 21, 22, 97] (by decide +kernel) (by decide +kernel)
set_option maxRecDepth 20000 in
theorem gX3_enoughIn_X0_copyFrom : GoodIn wsX3_enoughIn (wsV RX3 157 RX0 yX0_copyFrom wsX0_copyFrom) := goodIn_app (goodIn_of _ (by decide +kernel)) ggX3_enoughIn_X0_copyFrom
set_option maxRecDepth 20000 in
theorem ggX3_enoughIn_X0_shortBy : GoodIn wsX3_enoughIn wsX0_shortBy := goodIn_r _ [26, 27, 28, 29, 30, 14, 15, 16, 12, 17, 18, 97] (by decide +kernel) (by decide +kernel)
set_option maxRecDepth 20000 in
theorem gX3_enoughIn_X0_shortBy : GoodIn wsX3_enoughIn (wsV RX3 166 RX0 yX0_shortBy wsX0_shortBy) := goodIn_app (goodIn_of _ (by decide +kernel)) ggX3_enoughIn_X0_shortBy
set_option maxRecDepth 20000 in
theorem ggX3_enoughIn_X0_passDays : GoodIn wsX3_enoughIn wsX0_passDays := goodIn_r _ [34, 35, 36, 37, 12, 38, 14, 15, 16, 17, 18, 19, 20, 21, 22, 39, 40, 41, 42, 43, 44, 45, 46, 47, 48, 49, 50, 51, 52, 53, 54, 55, 56, 57, 58, 59, 29, 60, 61, 62, 63, 64, 65, 66, 67, 68, 69, 70, 71, 72, 73, 74, 75, 76, 77, 78, 79, 80, 81, 82, 83, 84, 85, 86, 87, 88, 89, 90, 91, 97] (by decide +kernel) (by decide +kernel)
set_option maxRecDepth 20000 in
theorem gX3_enoughIn_X0_passDays : GoodIn wsX3_enoughIn (wsV RX3 96 RX0 yX0_passDays wsX0_passDays) := goodIn_app (goodIn_of _ (by decide +kernel)) ggX3_enoughIn_X0_passDays
theorem dX3_enoughIn_0 : decode cX3_enoughIn 0 = .ok (.iload_n 1, 1) := by decide +kernel
theorem dX3_enoughIn_1 : decode cX3_enoughIn 1 = .ok (.iconst 5, 1) := by decide +kernel
theorem dX3_enoughIn_2 : decode cX3_enoughIn 2 = .ok (.invokestatic 38, 3) := by decide +kernel
theorem dX3_enoughIn_5 : decode cX3_enoughIn 5 = .ok (.aload_n 0, 1) := by decide +kernel
theorem dX3_enoughIn_6 : decode cX3_enoughIn 6 = .ok (.getfield 16, 3) := by decide +kernel
theorem dX3_enoughIn_9 : decode cX3_enoughIn 9 = .ok (.aload_n 0, 1) := by decide +kernel
theorem dX3_enoughIn_10 : decode cX3_enoughIn 10 = .ok (.getfield 12, 3) := by decide +kernel
theorem dX3_enoughIn_13 : decode cX3_enoughIn 13 = .ok (.invokevirtual 157, 3) := by decide +kernel
theorem dX3_enoughIn_16 : decode cX3_enoughIn 16 = .ok (.iconst 0, 1) := by decide +kernel
theorem dX3_enoughIn_17 : decode cX3_enoughIn 17 = .ok (.istore_n 2, 1) := by decide +kernel
theorem dX3_enoughIn_18 : decode cX3_enoughIn 18 = .ok (.iload_n 2, 1) := by decide +kernel
theorem dX3_enoughIn_19 : decode cX3_enoughIn 19 = .ok (.sipush 200, 3) := by decide +kernel
theorem dX3_enoughIn_22 : decode cX3_enoughIn 22 = .ok (.if_icmp .gt 31, 3) := by decide +kernel
theorem dX3_enoughIn_25 : decode cX3_enoughIn 25 = .ok (.aload_n 0, 1) := by decide +kernel
theorem dX3_enoughIn_26 : decode cX3_enoughIn 26 = .ok (.getfield 16, 3) := by decide +kernel
theorem dX3_enoughIn_29 : decode cX3_enoughIn 29 = .ok (.iload_n 1, 1) := by decide +kernel
theorem dX3_enoughIn_30 : decode cX3_enoughIn 30 = .ok (.invokevirtual 166, 3) := by decide +kernel
theorem dX3_enoughIn_33 : decode cX3_enoughIn 33 = .ok (.ifCond .ne 5, 3) := by decide +kernel
theorem dX3_enoughIn_36 : decode cX3_enoughIn 36 = .ok (.iload_n 2, 1) := by decide +kernel
theorem dX3_enoughIn_37 : decode cX3_enoughIn 37 = .ok (.ireturn, 1) := by decide +kernel
theorem dX3_enoughIn_38 : decode cX3_enoughIn 38 = .ok (.aload_n 0, 1) := by decide +kernel
theorem dX3_enoughIn_39 : decode cX3_enoughIn 39 = .ok (.getfield 16, 3) := by decide +kernel
theorem dX3_enoughIn_42 : decode cX3_enoughIn 42 = .ok (.iconst 1, 1) := by decide +kernel
theorem dX3_enoughIn_43 : decode cX3_enoughIn 43 = .ok (.invokevirtual 96, 3) := by decide +kernel
theorem dX3_enoughIn_46 : decode cX3_enoughIn 46 = .ok (.pop, 1) := by decide +kernel
theorem dX3_enoughIn_47 : decode cX3_enoughIn 47 = .ok (.iinc 2 1, 3) := by decide +kernel
theorem dX3_enoughIn_50 : decode cX3_enoughIn 50 = .ok (.goto (-32), 3) := by decide +kernel
theorem dX3_enoughIn_53 : decode cX3_enoughIn 53 = .ok (.iconst (-1), 1) := by decide +kernel
theorem dX3_enoughIn_54 : decode cX3_enoughIn 54 = .ok (.ireturn, 1) := by decide +kernel
set_option maxRecDepth 20000 in
theorem ggX3_bestBank_X3_requireIndex : GoodIn wsX3_bestBank wsX3_requireIndex := goodIn_ca (goodIn_r _ [6, 7, 8] (by decide +kernel) (by decide +kernel)) (goodIn_sub (fun _ h => List.mem_cons_of_mem _ (List.mem_append_right _ h)) (by decide +kernel))
set_option maxRecDepth 20000 in
theorem gX3_bestBank_X3_requireIndex : GoodIn wsX3_bestBank (va_wsS RX3 38 yX3_requireIndex wsX3_requireIndex) := goodIn_app (goodIn_of _ (by decide +kernel)) ggX3_bestBank_X3_requireIndex
set_option maxRecDepth 20000 in
theorem ggX3_bestBank_X0_reasonAgainst : GoodIn wsX3_bestBank wsX0_reasonAgainst := goodIn_r _ [13, 14, 15, 12, 16, 17, 18, 19, 20, 21, 22, 23, 24, 25, 103] (by decide +kernel) (by decide +kernel)
set_option maxRecDepth 20000 in
theorem gX3_bestBank_X0_reasonAgainst : GoodIn wsX3_bestBank (wsV RX3 57 RX0 yX0_reasonAgainst wsX0_reasonAgainst) := goodIn_app (goodIn_of _ (by decide +kernel)) ggX3_bestBank_X0_reasonAgainst
set_option maxRecDepth 20000 in
theorem ggX3_bestBank_X0_copyFrom : GoodIn wsX3_bestBank wsX0_copyFrom := goodIn_r _ [29, 17, 18, 19, 12, 20, 21, 30, 31, 32, 33, 103] (by decide +kernel) (by decide +kernel)
set_option maxRecDepth 20000 in
theorem gX3_bestBank_X0_copyFrom : GoodIn wsX3_bestBank (wsV RX3 157 RX0 yX0_copyFrom wsX0_copyFrom) := goodIn_app (goodIn_of _ (by decide +kernel)) ggX3_bestBank_X0_copyFrom
set_option maxRecDepth 20000 in
theorem ggX3_bestBank_X0_setToWork : GoodIn wsX3_bestBank wsX0_setToWork := goodIn_r _ [37, 30, 31, 32, 12, 33, 21, 103] (by decide +kernel) (by decide +kernel)
set_option maxRecDepth 20000 in
theorem gX3_bestBank_X0_setToWork : GoodIn wsX3_bestBank (wsV RX3 64 RX0 yX0_setToWork wsX0_setToWork) := goodIn_app (goodIn_of _ (by decide +kernel)) ggX3_bestBank_X0_setToWork
set_option maxRecDepth 20000 in
theorem ggX3_bestBank_X0_passDays : GoodIn wsX3_bestBank wsX0_passDays := goodIn_r _ [41, 42, 43, 44, 12, 45, 17, 18, 19, 20, 21, 30, 31, 32, 33, 46, 47, 48, 49, 50, 51, 52, 53, 54, 55, 56, 57, 58, 59, 60, 61, 62, 63, 64, 65, 66, 67, 68, 69, 70, 71, 72, 73, 74, 75, 76, 14, 15, 16, 77, 78, 79, 80, 81, 82, 83, 84, 85, 86, 87, 88, 89, 90, 91, 92, 93, 94, 95, 96, 103] (by decide +kernel) (by decide +kernel)
set_option maxRecDepth 20000 in
theorem gX3_bestBank_X0_passDays : GoodIn wsX3_bestBank (wsV RX3 96 RX0 yX0_passDays wsX0_passDays) := goodIn_app (goodIn_of _ (by decide +kernel)) ggX3_bestBank_X0_passDays
set_option maxRecDepth 20000 in
theorem ggX3_bestBank_X0_at : GoodIn wsX3_bestBank wsX0_at := goodIn_r _ [20, 21, 103] (by decide +kernel) (by decide +kernel)
set_option maxRecDepth 20000 in
theorem gX3_bestBank_X0_at : GoodIn wsX3_bestBank (wsV RX3 86 RX0 yX0_at wsX0_at) := goodIn_app (goodIn_of _ (by decide +kernel)) ggX3_bestBank_X0_at
theorem dX3_bestBank_0 : decode cX3_bestBank 0 = .ok (.iload_n 1, 1) := by decide +kernel
theorem dX3_bestBank_1 : decode cX3_bestBank 1 = .ok (.bipush 6, 2) := by decide +kernel
theorem dX3_bestBank_3 : decode cX3_bestBank 3 = .ok (.invokestatic 38, 3) := by decide +kernel
theorem dX3_bestBank_6 : decode cX3_bestBank 6 = .ok (.iload_n 2, 1) := by decide +kernel
theorem dX3_bestBank_7 : decode cX3_bestBank 7 = .ok (.iconst 5, 1) := by decide +kernel
theorem dX3_bestBank_8 : decode cX3_bestBank 8 = .ok (.invokestatic 38, 3) := by decide +kernel
theorem dX3_bestBank_11 : decode cX3_bestBank 11 = .ok (.iconst (-1), 1) := by decide +kernel
theorem dX3_bestBank_12 : decode cX3_bestBank 12 = .ok (.istore_n 3, 1) := by decide +kernel
theorem dX3_bestBank_13 : decode cX3_bestBank 13 = .ok (.iconst 0, 1) := by decide +kernel
theorem dX3_bestBank_14 : decode cX3_bestBank 14 = .ok (.istore 4, 2) := by decide +kernel
theorem dX3_bestBank_16 : decode cX3_bestBank 16 = .ok (.iconst 0, 1) := by decide +kernel
theorem dX3_bestBank_17 : decode cX3_bestBank 17 = .ok (.istore 5, 2) := by decide +kernel
theorem dX3_bestBank_19 : decode cX3_bestBank 19 = .ok (.iload 5, 2) := by decide +kernel
theorem dX3_bestBank_21 : decode cX3_bestBank 21 = .ok (.iconst 4, 1) := by decide +kernel
theorem dX3_bestBank_22 : decode cX3_bestBank 22 = .ok (.if_icmp .ge 86, 3) := by decide +kernel
theorem dX3_bestBank_25 : decode cX3_bestBank 25 = .ok (.aload_n 0, 1) := by decide +kernel
theorem dX3_bestBank_26 : decode cX3_bestBank 26 = .ok (.getfield 12, 3) := by decide +kernel
theorem dX3_bestBank_29 : decode cX3_bestBank 29 = .ok (.iload_n 2, 1) := by decide +kernel
theorem dX3_bestBank_30 : decode cX3_bestBank 30 = .ok (.iload 5, 2) := by decide +kernel
theorem dX3_bestBank_32 : decode cX3_bestBank 32 = .ok (.invokevirtual 57, 3) := by decide +kernel
theorem dX3_bestBank_35 : decode cX3_bestBank 35 = .ok (.ifCond .ne 67, 3) := by decide +kernel
theorem dX3_bestBank_38 : decode cX3_bestBank 38 = .ok (.aload_n 0, 1) := by decide +kernel
theorem dX3_bestBank_39 : decode cX3_bestBank 39 = .ok (.getfield 16, 3) := by decide +kernel
theorem dX3_bestBank_42 : decode cX3_bestBank 42 = .ok (.aload_n 0, 1) := by decide +kernel
theorem dX3_bestBank_43 : decode cX3_bestBank 43 = .ok (.getfield 12, 3) := by decide +kernel
theorem dX3_bestBank_46 : decode cX3_bestBank 46 = .ok (.invokevirtual 157, 3) := by decide +kernel
theorem dX3_bestBank_49 : decode cX3_bestBank 49 = .ok (.aload_n 0, 1) := by decide +kernel
theorem dX3_bestBank_50 : decode cX3_bestBank 50 = .ok (.getfield 16, 3) := by decide +kernel
theorem dX3_bestBank_53 : decode cX3_bestBank 53 = .ok (.iload_n 1, 1) := by decide +kernel
theorem dX3_bestBank_54 : decode cX3_bestBank 54 = .ok (.iload_n 2, 1) := by decide +kernel
theorem dX3_bestBank_55 : decode cX3_bestBank 55 = .ok (.iload 5, 2) := by decide +kernel
theorem dX3_bestBank_57 : decode cX3_bestBank 57 = .ok (.invokevirtual 64, 3) := by decide +kernel
theorem dX3_bestBank_60 : decode cX3_bestBank 60 = .ok (.aload_n 0, 1) := by decide +kernel
theorem dX3_bestBank_61 : decode cX3_bestBank 61 = .ok (.getfield 16, 3) := by decide +kernel
theorem dX3_bestBank_64 : decode cX3_bestBank 64 = .ok (.bipush 20, 2) := by decide +kernel
theorem dX3_bestBank_66 : decode cX3_bestBank 66 = .ok (.invokevirtual 96, 3) := by decide +kernel
theorem dX3_bestBank_69 : decode cX3_bestBank 69 = .ok (.pop, 1) := by decide +kernel
theorem dX3_bestBank_70 : decode cX3_bestBank 70 = .ok (.aload_n 0, 1) := by decide +kernel
theorem dX3_bestBank_71 : decode cX3_bestBank 71 = .ok (.getfield 16, 3) := by decide +kernel
theorem dX3_bestBank_74 : decode cX3_bestBank 74 = .ok (.bipush 15, 2) := by decide +kernel
theorem dX3_bestBank_76 : decode cX3_bestBank 76 = .ok (.iload_n 2, 1) := by decide +kernel
theorem dX3_bestBank_77 : decode cX3_bestBank 77 = .ok (.iadd, 1) := by decide +kernel
theorem dX3_bestBank_78 : decode cX3_bestBank 78 = .ok (.invokevirtual 86, 3) := by decide +kernel
theorem dX3_bestBank_81 : decode cX3_bestBank 81 = .ok (.istore 6, 2) := by decide +kernel
theorem dX3_bestBank_83 : decode cX3_bestBank 83 = .ok (.iload_n 3, 1) := by decide +kernel
theorem dX3_bestBank_84 : decode cX3_bestBank 84 = .ok (.iconst (-1), 1) := by decide +kernel
theorem dX3_bestBank_85 : decode cX3_bestBank 85 = .ok (.if_icmp .eq 10, 3) := by decide +kernel
theorem dX3_bestBank_88 : decode cX3_bestBank 88 = .ok (.iload 6, 2) := by decide +kernel
theorem dX3_bestBank_90 : decode cX3_bestBank 90 = .ok (.iload 4, 2) := by decide +kernel
theorem dX3_bestBank_92 : decode cX3_bestBank 92 = .ok (.if_icmp .le 10, 3) := by decide +kernel
theorem dX3_bestBank_95 : decode cX3_bestBank 95 = .ok (.iload 5, 2) := by decide +kernel
theorem dX3_bestBank_97 : decode cX3_bestBank 97 = .ok (.istore_n 3, 1) := by decide +kernel
theorem dX3_bestBank_98 : decode cX3_bestBank 98 = .ok (.iload 6, 2) := by decide +kernel
theorem dX3_bestBank_100 : decode cX3_bestBank 100 = .ok (.istore 4, 2) := by decide +kernel
theorem dX3_bestBank_102 : decode cX3_bestBank 102 = .ok (.iinc 5 1, 3) := by decide +kernel
theorem dX3_bestBank_105 : decode cX3_bestBank 105 = .ok (.goto (-86), 3) := by decide +kernel
theorem dX3_bestBank_108 : decode cX3_bestBank 108 = .ok (.iload_n 3, 1) := by decide +kernel
theorem dX3_bestBank_109 : decode cX3_bestBank 109 = .ok (.ireturn, 1) := by decide +kernel
set_option maxRecDepth 20000 in
theorem ggX3_dryness_X0_turvesOnBanks : GoodIn wsX3_dryness wsX0_turvesOnBanks := goodIn_r _ [6, 7, 8, 9, 5, 10, 11, 12, 13, 14, 15, 25] (by decide +kernel) (by decide +kernel)
set_option maxRecDepth 20000 in
theorem gX3_dryness_X0_turvesOnBanks : GoodIn wsX3_dryness (wsV RX3 169 RX0 yX0_turvesOnBanks wsX0_turvesOnBanks) := goodIn_app (goodIn_of _ (by decide +kernel)) ggX3_dryness_X0_turvesOnBanks
set_option maxRecDepth 20000 in
theorem ggX3_dryness_X0_sum : GoodIn wsX3_dryness wsX0_sum := goodIn_r _ [19, 11, 12, 13, 5, 14, 15, 25] (by decide +kernel) (by decide +kernel)
set_option maxRecDepth 20000 in
theorem gX3_dryness_X0_sum : GoodIn wsX3_dryness (wsV RX3 163 RX0 yX0_sum wsX0_sum) := goodIn_app (goodIn_of _ (by decide +kernel)) ggX3_dryness_X0_sum
theorem dX3_dryness_0 : decode cX3_dryness 0 = .ok (.aload_n 0, 1) := by decide +kernel
theorem dX3_dryness_1 : decode cX3_dryness 1 = .ok (.getfield 12, 3) := by decide +kernel
theorem dX3_dryness_4 : decode cX3_dryness 4 = .ok (.invokevirtual 169, 3) := by decide +kernel
theorem dX3_dryness_7 : decode cX3_dryness 7 = .ok (.istore_n 1, 1) := by decide +kernel
theorem dX3_dryness_8 : decode cX3_dryness 8 = .ok (.iload_n 1, 1) := by decide +kernel
theorem dX3_dryness_9 : decode cX3_dryness 9 = .ok (.ifCond .ne 5, 3) := by decide +kernel
theorem dX3_dryness_12 : decode cX3_dryness 12 = .ok (.dconst 1, 1) := by decide +kernel
theorem dX3_dryness_13 : decode cX3_dryness 13 = .ok (.dreturn, 1) := by decide +kernel
theorem dX3_dryness_14 : decode cX3_dryness 14 = .ok (.aload_n 0, 1) := by decide +kernel
theorem dX3_dryness_15 : decode cX3_dryness 15 = .ok (.getfield 12, 3) := by decide +kernel
theorem dX3_dryness_18 : decode cX3_dryness 18 = .ok (.bipush 117, 2) := by decide +kernel
theorem dX3_dryness_20 : decode cX3_dryness 20 = .ok (.bipush 20, 2) := by decide +kernel
theorem dX3_dryness_22 : decode cX3_dryness 22 = .ok (.invokevirtual 163, 3) := by decide +kernel
theorem dX3_dryness_25 : decode cX3_dryness 25 = .ok (.i2d, 1) := by decide +kernel
theorem dX3_dryness_26 : decode cX3_dryness 26 = .ok (.iload_n 1, 1) := by decide +kernel
theorem dX3_dryness_27 : decode cX3_dryness 27 = .ok (.i2d, 1) := by decide +kernel
theorem dX3_dryness_28 : decode cX3_dryness 28 = .ok (.ddiv, 1) := by decide +kernel
theorem dX3_dryness_29 : decode cX3_dryness 29 = .ok (.dreturn, 1) := by decide +kernel
set_option maxRecDepth 20000 in
theorem ggX3_digest_X3_count : GoodIn wsX3_digest wsX3_count := goodIn_ca (goodIn_r _ [8, 9, 10, 11, 12, 7, 13, 14, 15, 16, 17, 18, 19, 20, 21, 22, 23, 24, 25, 26, 27, 28, 29, 30, 31, 32, 33, 34, 35, 36, 37, 38, 39, 40, 41, 42, 43, 44, 45, 46, 47, 48, 49, 50, 51, 52, 53, 54, 55, 56, 57, 58, 59, 60, 61, 62, 63, 64, 65, 66, 67, 68, 69, 70, 71, 72, 73, 74, 75, 76, 77, 78, 79, 80, 81, 237, 238, 239, 240, 241, 242, 243, 244, 245, 246] (by decide +kernel) (by decide +kernel)) (goodIn_sub (fun _ h => List.mem_cons_of_mem _ (List.mem_append_left _ (List.mem_append_right _ h))) (by decide +kernel))
set_option maxRecDepth 20000 in
theorem gX3_digest_X3_count : GoodIn wsX3_digest (wsV RX3 176 RX3 yX3_count wsX3_count) := goodIn_app (goodIn_of _ (by decide +kernel)) ggX3_digest_X3_count
set_option maxRecDepth 20000 in
theorem ggX3_digest_X3_hearthOf : GoodIn wsX3_digest wsX3_hearthOf := goodIn_ca (goodIn_ca (goodIn_r _ [85, 10, 86, 87, 7, 88, 89, 90, 11, 12, 13, 14, 15, 16, 17, 18, 91, 92, 93, 28, 94, 30, 31, 32, 33, 34, 79, 80, 81, 55, 56, 57, 58, 63, 64, 65, 66, 67, 68, 69, 70, 75, 76, 77, 78, 95, 96, 97, 98, 237, 238, 239, 240, 241, 246] (by decide +kernel) (by decide +kernel)) (goodIn_sub (fun _ h => List.mem_cons_of_mem _ (List.mem_append_right _ h)) (by decide +kernel))) (goodIn_sub (fun _ h => List.mem_cons_of_mem _ (List.mem_append_left _ (List.mem_append_right _ h))) (by decide +kernel))
set_option maxRecDepth 20000 in
theorem gX3_digest_X3_hearthOf : GoodIn wsX3_digest (wsV RX3 179 RX3 yX3_hearthOf wsX3_hearthOf) := goodIn_app (goodIn_of _ (by decide +kernel)) ggX3_digest_X3_hearthOf
set_option maxRecDepth 20000 in
theorem ggX3_digest_X3_plot : GoodIn wsX3_digest wsX3_plot := goodIn_ca (goodIn_ca (goodIn_r _ [102, 10, 86, 87, 7, 88, 89, 90, 11, 12, 13, 14, 15, 16, 17, 18, 103, 104, 105, 28, 106, 79, 80, 81, 30, 31, 32, 33, 34, 43, 44, 45, 46, 237, 238, 239, 240, 241, 246] (by decide +kernel) (by decide +kernel)) (goodIn_sub (fun _ h => List.mem_cons_of_mem _ (List.mem_append_right _ h)) (by decide +kernel))) (goodIn_sub (fun _ h => List.mem_cons_of_mem _ (List.mem_append_left _ (List.mem_append_right _ h))) (by decide +kernel))
set_option maxRecDepth 20000 in
theorem gX3_digest_X3_plot : GoodIn wsX3_digest (wsV RX3 182 RX3 yX3_plot wsX3_plot) := goodIn_app (goodIn_of _ (by decide +kernel)) ggX3_digest_X3_plot
set_option maxRecDepth 20000 in
theorem ggX3_digest_X3_enoughIn : GoodIn wsX3_digest wsX3_enoughIn := goodIn_ca (goodIn_r _ [110, 111, 10, 86, 87, 7, 88, 89, 90, 112, 113, 114, 28, 115, 30, 31, 32, 33, 34, 116, 117, 118, 119, 120, 64, 65, 66, 67, 68, 69, 70, 121, 122, 123, 124, 125, 126, 127, 128, 129, 130, 131, 132, 55, 56, 57, 58, 133, 134, 135, 136, 137, 138, 139, 140, 141, 142, 143, 144, 145, 146, 147, 148, 149, 150, 151, 152, 153, 154, 79, 80, 81, 155, 156, 157, 158, 159, 160, 161, 162, 163, 164, 165, 166, 167, 168, 169, 170, 171, 172, 173, 174, 237, 238, 239, 240, 241, 246] (by decide +kernel) (by decide +kernel)) (goodIn_sub (fun _ h => List.mem_cons_of_mem _ (List.mem_append_right _ h)) (by decide +kernel))
set_option maxRecDepth 20000 in
theorem gX3_digest_X3_enoughIn : GoodIn wsX3_digest (wsV RX3 185 RX3 yX3_enoughIn wsX3_enoughIn) := goodIn_app (goodIn_of _ (by decide +kernel)) ggX3_digest_X3_enoughIn
set_option maxRecDepth 20000 in
theorem ggX3_digest_X3_bestBank : GoodIn wsX3_digest wsX3_bestBank := goodIn_ca (goodIn_r _ [178, 10, 111, 86, 87, 7, 88, 89, 90, 179, 180, 181, 28, 182, 79, 80, 81, 30, 31, 32, 33, 34, 43, 44, 45, 46, 112, 113, 114, 115, 116, 117, 118, 119, 183, 184, 185, 186, 121, 122, 123, 124, 125, 126, 127, 128, 129, 130, 131, 132, 55, 56, 57, 58, 133, 134, 135, 136, 137, 138, 139, 140, 141, 142, 143, 144, 145, 69, 146, 147, 148, 149, 150, 151, 152, 153, 154, 155, 156, 157, 158, 159, 160, 161, 162, 163, 164, 165, 166, 167, 168, 169, 170, 171, 172, 173, 174, 187, 237, 238, 239, 240, 241, 246] (by decide +kernel) (by decide +kernel)) (goodIn_sub (fun _ h => List.mem_cons_of_mem _ (List.mem_append_right _ h)) (by decide +kernel))
set_option maxRecDepth 20000 in
theorem gX3_digest_X3_bestBank : GoodIn wsX3_digest (wsV RX3 188 RX3 yX3_bestBank wsX3_bestBank) := goodIn_app (goodIn_of _ (by decide +kernel)) ggX3_digest_X3_bestBank
set_option maxRecDepth 20000 in
theorem ggX3_digest_X3_bankOf : GoodIn wsX3_digest wsX3_bankOf := goodIn_ca (goodIn_ca (goodIn_r _ [191, 10, 86, 87, 7, 88, 89, 90, 11, 12, 13, 14, 15, 16, 17, 18, 192, 193, 194, 28, 195, 30, 31, 32, 33, 34, 39, 40, 41, 42, 43, 44, 45, 46, 79, 80, 81, 55, 56, 57, 58, 237, 238, 239, 240, 241, 246] (by decide +kernel) (by decide +kernel)) (goodIn_sub (fun _ h => List.mem_cons_of_mem _ (List.mem_append_right _ h)) (by decide +kernel))) (goodIn_sub (fun _ h => List.mem_cons_of_mem _ (List.mem_append_left _ (List.mem_append_right _ h))) (by decide +kernel))
set_option maxRecDepth 20000 in
theorem gX3_digest_X3_bankOf : GoodIn wsX3_digest (wsV RX3 191 RX3 yX3_bankOf wsX3_bankOf) := goodIn_app (goodIn_of _ (by decide +kernel)) ggX3_digest_X3_bankOf
set_option maxRecDepth 20000 in
theorem ggX3_digest_X3_cutter : GoodIn wsX3_digest wsX3_cutter := goodIn_ca (goodIn_ca (goodIn_r _ [199, 10, 86, 87, 7, 88, 89, 90, 11, 12, 13, 14, 15, 16, 17, 18, 200, 201, 202, 28, 203, 30, 31, 32, 33, 34, 237, 238, 239, 240, 241, 246] (by decide +kernel) (by decide +kernel)) (goodIn_sub (fun _ h => List.mem_cons_of_mem _ (List.mem_append_right _ h)) (by decide +kernel))) (goodIn_sub (fun _ h => List.mem_cons_of_mem _ (List.mem_append_left _ (List.mem_append_right _ h))) (by decide +kernel))
set_option maxRecDepth 20000 in
theorem gX3_digest_X3_cutter : GoodIn wsX3_digest (wsV RX3 194 RX3 yX3_cutter wsX3_cutter) := goodIn_app (goodIn_of _ (by decide +kernel)) ggX3_digest_X3_cutter
set_option maxRecDepth 20000 in
theorem ggX3_digest_X3_rain : GoodIn wsX3_digest wsX3_rain := goodIn_ca (goodIn_r _ [207, 10, 14, 15, 7, 16, 17, 18, 208, 156, 157, 28, 158, 159, 160, 161, 162, 30, 31, 32, 33, 34, 237, 238, 239, 240, 241, 246] (by decide +kernel) (by decide +kernel)) (goodIn_sub (fun _ h => List.mem_cons_of_mem _ (List.mem_append_left _ (List.mem_append_right _ h))) (by decide +kernel))
set_option maxRecDepth 20000 in
theorem gX3_digest_X3_rain : GoodIn wsX3_digest (wsV RX3 197 RX3 yX3_rain wsX3_rain) := goodIn_app (goodIn_of _ (by decide +kernel)) ggX3_digest_X3_rain
set_option maxRecDepth 20000 in
theorem ggX3_digest_X3_ifPassed : GoodIn wsX3_digest wsX3_ifPassed := goodIn_ca (goodIn_r _ [212, 111, 10, 11, 12, 7, 13, 14, 15, 16, 17, 18, 112, 113, 114, 28, 115, 30, 31, 32, 33, 34, 116, 117, 118, 119, 121, 122, 123, 124, 125, 126, 127, 128, 129, 130, 131, 132, 55, 56, 57, 58, 133, 134, 135, 136, 137, 138, 139, 140, 141, 142, 143, 144, 145, 69, 146, 147, 148, 149, 150, 151, 152, 153, 154, 79, 80, 81, 155, 156, 157, 158, 159, 160, 161, 162, 163, 164, 165, 166, 167, 168, 169, 170, 171, 172, 173, 174, 213, 60, 61, 62, 63, 64, 65, 66, 67, 68, 70, 214, 48, 49, 50, 237, 238, 239, 240, 241, 246] (by decide +kernel) (by decide +kernel)) (goodIn_sub (fun _ h => List.mem_cons_of_mem _ (List.mem_append_left _ (List.mem_append_right _ h))) (by decide +kernel))
set_option maxRecDepth 20000 in
theorem gX3_digest_X3_ifPassed : GoodIn wsX3_digest (wsV RX3 200 RX3 yX3_ifPassed wsX3_ifPassed) := goodIn_app (goodIn_of _ (by decide +kernel)) ggX3_digest_X3_ifPassed
set_option maxRecDepth 20000 in
theorem ggX3_digest_X3_dryness : GoodIn wsX3_digest wsX3_dryness := goodIn_r _ [218, 10, 219, 52, 53, 28, 54, 55, 56, 57, 58, 30, 31, 32, 33, 34, 214, 48, 49, 50, 237, 238, 239, 240, 241, 246] (by decide +kernel) (by decide +kernel)
set_option maxRecDepth 20000 in
theorem gX3_digest_X3_dryness : GoodIn wsX3_digest (wsV RX3 203 RX3 yX3_dryness wsX3_dryness) := goodIn_app (goodIn_of _ (by decide +kernel)) ggX3_digest_X3_dryness
set_option maxRecDepth 20000 in
theorem ggX3_digest_X3_bitsOf : GoodIn wsX3_digest wsX3_bitsOf := goodIn_r _ [222, 223, 224, 225] (by decide +kernel) (by decide +kernel)
set_option maxRecDepth 20000 in
theorem gX3_digest_X3_bitsOf : GoodIn wsX3_digest (va_wsS RX3 207 yX3_bitsOf wsX3_bitsOf) := goodIn_app (goodIn_of _ (by decide +kernel)) ggX3_digest_X3_bitsOf
set_option maxRecDepth 20000 in
theorem ggX3_digest_X2_length : GoodIn wsX3_digest wsX2_length := goodIn_r _ [230, 231, 247, 248] (by decide +kernel) (by decide +kernel)
set_option maxRecDepth 20000 in
theorem gX3_digest_X2_length : GoodIn wsX3_digest (wsV RX3 106 RX2 yX2_length wsX2_length) := goodIn_app (goodIn_of _ (by decide +kernel)) ggX3_digest_X2_length
set_option maxRecDepth 20000 in
theorem ggX3_digest_X2_signAt : GoodIn wsX3_digest wsX2_signAt := goodIn_r _ [235, 231, 236, 247, 248] (by decide +kernel) (by decide +kernel)
set_option maxRecDepth 20000 in
theorem gX3_digest_X2_signAt : GoodIn wsX3_digest (wsV RX3 211 RX2 yX2_signAt wsX2_signAt) := goodIn_app (goodIn_of _ (by decide +kernel)) ggX3_digest_X2_signAt
theorem dX3_digest_0 : decode cX3_digest 0 = .ok (.ldc2_w 172, 3) := by decide +kernel
theorem dX3_digest_3 : decode cX3_digest 3 = .ok (.lstore_n 1, 1) := by decide +kernel
theorem dX3_digest_4 : decode cX3_digest 4 = .ok (.iconst 0, 1) := by decide +kernel
theorem dX3_digest_5 : decode cX3_digest 5 = .ok (.istore_n 3, 1) := by decide +kernel
theorem dX3_digest_6 : decode cX3_digest 6 = .ok (.iload_n 3, 1) := by decide +kernel
theorem dX3_digest_7 : decode cX3_digest 7 = .ok (.bipush 12, 2) := by decide +kernel
theorem dX3_digest_9 : decode cX3_digest 9 = .ok (.if_icmp .gt 22, 3) := by decide +kernel
theorem dX3_digest_12 : decode cX3_digest 12 = .ok (.ldc2_w 174, 3) := by decide +kernel
theorem dX3_digest_15 : decode cX3_digest 15 = .ok (.lload_n 1, 1) := by decide +kernel
theorem dX3_digest_16 : decode cX3_digest 16 = .ok (.lmul, 1) := by decide +kernel
theorem dX3_digest_17 : decode cX3_digest 17 = .ok (.aload_n 0, 1) := by decide +kernel
theorem dX3_digest_18 : decode cX3_digest 18 = .ok (.iload_n 3, 1) := by decide +kernel
theorem dX3_digest_19 : decode cX3_digest 19 = .ok (.invokevirtual 176, 3) := by decide +kernel
theorem dX3_digest_22 : decode cX3_digest 22 = .ok (.i2l, 1) := by decide +kernel
theorem dX3_digest_23 : decode cX3_digest 23 = .ok (.ladd, 1) := by decide +kernel
theorem dX3_digest_24 : decode cX3_digest 24 = .ok (.lstore_n 1, 1) := by decide +kernel
theorem dX3_digest_25 : decode cX3_digest 25 = .ok (.iinc 3 1, 3) := by decide +kernel
theorem dX3_digest_28 : decode cX3_digest 28 = .ok (.goto (-22), 3) := by decide +kernel
theorem dX3_digest_31 : decode cX3_digest 31 = .ok (.iconst 0, 1) := by decide +kernel
theorem dX3_digest_32 : decode cX3_digest 32 = .ok (.istore_n 3, 1) := by decide +kernel
theorem dX3_digest_33 : decode cX3_digest 33 = .ok (.iload_n 3, 1) := by decide +kernel
theorem dX3_digest_34 : decode cX3_digest 34 = .ok (.iconst 5, 1) := by decide +kernel
theorem dX3_digest_35 : decode cX3_digest 35 = .ok (.if_icmp .ge 114, 3) := by decide +kernel
theorem dX3_digest_38 : decode cX3_digest 38 = .ok (.iconst 0, 1) := by decide +kernel
theorem dX3_digest_39 : decode cX3_digest 39 = .ok (.istore 4, 2) := by decide +kernel
theorem dX3_digest_41 : decode cX3_digest 41 = .ok (.iload 4, 2) := by decide +kernel
theorem dX3_digest_43 : decode cX3_digest 43 = .ok (.bipush 11, 2) := by decide +kernel
theorem dX3_digest_45 : decode cX3_digest 45 = .ok (.if_icmp .gt 24, 3) := by decide +kernel
theorem dX3_digest_48 : decode cX3_digest 48 = .ok (.ldc2_w 174, 3) := by decide +kernel
theorem dX3_digest_51 : decode cX3_digest 51 = .ok (.lload_n 1, 1) := by decide +kernel
theorem dX3_digest_52 : decode cX3_digest 52 = .ok (.lmul, 1) := by decide +kernel
theorem dX3_digest_53 : decode cX3_digest 53 = .ok (.aload_n 0, 1) := by decide +kernel
theorem dX3_digest_54 : decode cX3_digest 54 = .ok (.iload_n 3, 1) := by decide +kernel
theorem dX3_digest_55 : decode cX3_digest 55 = .ok (.iload 4, 2) := by decide +kernel
theorem dX3_digest_57 : decode cX3_digest 57 = .ok (.invokevirtual 179, 3) := by decide +kernel
theorem dX3_digest_60 : decode cX3_digest 60 = .ok (.i2l, 1) := by decide +kernel
theorem dX3_digest_61 : decode cX3_digest 61 = .ok (.ladd, 1) := by decide +kernel
theorem dX3_digest_62 : decode cX3_digest 62 = .ok (.lstore_n 1, 1) := by decide +kernel
theorem dX3_digest_63 : decode cX3_digest 63 = .ok (.iinc 4 1, 3) := by decide +kernel
theorem dX3_digest_66 : decode cX3_digest 66 = .ok (.goto (-25), 3) := by decide +kernel
theorem dX3_digest_69 : decode cX3_digest 69 = .ok (.iconst 0, 1) := by decide +kernel
theorem dX3_digest_70 : decode cX3_digest 70 = .ok (.istore 4, 2) := by decide +kernel
theorem dX3_digest_72 : decode cX3_digest 72 = .ok (.iload 4, 2) := by decide +kernel
theorem dX3_digest_74 : decode cX3_digest 74 = .ok (.iconst 4, 1) := by decide +kernel
theorem dX3_digest_75 : decode cX3_digest 75 = .ok (.if_icmp .ge 41, 3) := by decide +kernel
theorem dX3_digest_78 : decode cX3_digest 78 = .ok (.iconst 0, 1) := by decide +kernel
theorem dX3_digest_79 : decode cX3_digest 79 = .ok (.istore 5, 2) := by decide +kernel
theorem dX3_digest_81 : decode cX3_digest 81 = .ok (.iload 5, 2) := by decide +kernel
theorem dX3_digest_83 : decode cX3_digest 83 = .ok (.iconst 4, 1) := by decide +kernel
theorem dX3_digest_84 : decode cX3_digest 84 = .ok (.if_icmp .gt 26, 3) := by decide +kernel
theorem dX3_digest_87 : decode cX3_digest 87 = .ok (.ldc2_w 174, 3) := by decide +kernel
theorem dX3_digest_90 : decode cX3_digest 90 = .ok (.lload_n 1, 1) := by decide +kernel
theorem dX3_digest_91 : decode cX3_digest 91 = .ok (.lmul, 1) := by decide +kernel
theorem dX3_digest_92 : decode cX3_digest 92 = .ok (.aload_n 0, 1) := by decide +kernel
theorem dX3_digest_93 : decode cX3_digest 93 = .ok (.iload_n 3, 1) := by decide +kernel
theorem dX3_digest_94 : decode cX3_digest 94 = .ok (.iload 4, 2) := by decide +kernel
theorem dX3_digest_96 : decode cX3_digest 96 = .ok (.iload 5, 2) := by decide +kernel
theorem dX3_digest_98 : decode cX3_digest 98 = .ok (.invokevirtual 182, 3) := by decide +kernel
theorem dX3_digest_101 : decode cX3_digest 101 = .ok (.i2l, 1) := by decide +kernel
theorem dX3_digest_102 : decode cX3_digest 102 = .ok (.ladd, 1) := by decide +kernel
theorem dX3_digest_103 : decode cX3_digest 103 = .ok (.lstore_n 1, 1) := by decide +kernel
theorem dX3_digest_104 : decode cX3_digest 104 = .ok (.iinc 5 1, 3) := by decide +kernel
theorem dX3_digest_107 : decode cX3_digest 107 = .ok (.goto (-26), 3) := by decide +kernel
theorem dX3_digest_110 : decode cX3_digest 110 = .ok (.iinc 4 1, 3) := by decide +kernel
theorem dX3_digest_113 : decode cX3_digest 113 = .ok (.goto (-41), 3) := by decide +kernel
theorem dX3_digest_116 : decode cX3_digest 116 = .ok (.ldc2_w 174, 3) := by decide +kernel
theorem dX3_digest_119 : decode cX3_digest 119 = .ok (.lload_n 1, 1) := by decide +kernel
theorem dX3_digest_120 : decode cX3_digest 120 = .ok (.lmul, 1) := by decide +kernel
theorem dX3_digest_121 : decode cX3_digest 121 = .ok (.aload_n 0, 1) := by decide +kernel
theorem dX3_digest_122 : decode cX3_digest 122 = .ok (.iload_n 3, 1) := by decide +kernel
theorem dX3_digest_123 : decode cX3_digest 123 = .ok (.invokevirtual 185, 3) := by decide +kernel
theorem dX3_digest_126 : decode cX3_digest 126 = .ok (.i2l, 1) := by decide +kernel
theorem dX3_digest_127 : decode cX3_digest 127 = .ok (.ladd, 1) := by decide +kernel
theorem dX3_digest_128 : decode cX3_digest 128 = .ok (.lstore_n 1, 1) := by decide +kernel
theorem dX3_digest_129 : decode cX3_digest 129 = .ok (.ldc2_w 174, 3) := by decide +kernel
theorem dX3_digest_132 : decode cX3_digest 132 = .ok (.lload_n 1, 1) := by decide +kernel
theorem dX3_digest_133 : decode cX3_digest 133 = .ok (.lmul, 1) := by decide +kernel
theorem dX3_digest_134 : decode cX3_digest 134 = .ok (.aload_n 0, 1) := by decide +kernel
theorem dX3_digest_135 : decode cX3_digest 135 = .ok (.iconst 0, 1) := by decide +kernel
theorem dX3_digest_136 : decode cX3_digest 136 = .ok (.iload_n 3, 1) := by decide +kernel
theorem dX3_digest_137 : decode cX3_digest 137 = .ok (.invokevirtual 188, 3) := by decide +kernel
theorem dX3_digest_140 : decode cX3_digest 140 = .ok (.i2l, 1) := by decide +kernel
theorem dX3_digest_141 : decode cX3_digest 141 = .ok (.ladd, 1) := by decide +kernel
theorem dX3_digest_142 : decode cX3_digest 142 = .ok (.lstore_n 1, 1) := by decide +kernel
theorem dX3_digest_143 : decode cX3_digest 143 = .ok (.iinc 3 1, 3) := by decide +kernel
theorem dX3_digest_146 : decode cX3_digest 146 = .ok (.goto (-113), 3) := by decide +kernel
theorem dX3_digest_149 : decode cX3_digest 149 = .ok (.iconst 0, 1) := by decide +kernel
theorem dX3_digest_150 : decode cX3_digest 150 = .ok (.istore_n 3, 1) := by decide +kernel
theorem dX3_digest_151 : decode cX3_digest 151 = .ok (.iload_n 3, 1) := by decide +kernel
theorem dX3_digest_152 : decode cX3_digest 152 = .ok (.iconst 4, 1) := by decide +kernel
theorem dX3_digest_153 : decode cX3_digest 153 = .ok (.if_icmp .ge 39, 3) := by decide +kernel
theorem dX3_digest_156 : decode cX3_digest 156 = .ok (.iconst 0, 1) := by decide +kernel
theorem dX3_digest_157 : decode cX3_digest 157 = .ok (.istore 4, 2) := by decide +kernel
theorem dX3_digest_159 : decode cX3_digest 159 = .ok (.iload 4, 2) := by decide +kernel
theorem dX3_digest_161 : decode cX3_digest 161 = .ok (.iconst 4, 1) := by decide +kernel
theorem dX3_digest_162 : decode cX3_digest 162 = .ok (.if_icmp .gt 24, 3) := by decide +kernel
theorem dX3_digest_165 : decode cX3_digest 165 = .ok (.ldc2_w 174, 3) := by decide +kernel
theorem dX3_digest_168 : decode cX3_digest 168 = .ok (.lload_n 1, 1) := by decide +kernel
theorem dX3_digest_169 : decode cX3_digest 169 = .ok (.lmul, 1) := by decide +kernel
theorem dX3_digest_170 : decode cX3_digest 170 = .ok (.aload_n 0, 1) := by decide +kernel
theorem dX3_digest_171 : decode cX3_digest 171 = .ok (.iload_n 3, 1) := by decide +kernel
theorem dX3_digest_172 : decode cX3_digest 172 = .ok (.iload 4, 2) := by decide +kernel
theorem dX3_digest_174 : decode cX3_digest 174 = .ok (.invokevirtual 191, 3) := by decide +kernel
theorem dX3_digest_177 : decode cX3_digest 177 = .ok (.i2l, 1) := by decide +kernel
theorem dX3_digest_178 : decode cX3_digest 178 = .ok (.ladd, 1) := by decide +kernel
theorem dX3_digest_179 : decode cX3_digest 179 = .ok (.lstore_n 1, 1) := by decide +kernel
theorem dX3_digest_180 : decode cX3_digest 180 = .ok (.iinc 4 1, 3) := by decide +kernel
theorem dX3_digest_183 : decode cX3_digest 183 = .ok (.goto (-24), 3) := by decide +kernel
theorem dX3_digest_186 : decode cX3_digest 186 = .ok (.iinc 3 1, 3) := by decide +kernel
theorem dX3_digest_189 : decode cX3_digest 189 = .ok (.goto (-38), 3) := by decide +kernel
theorem dX3_digest_192 : decode cX3_digest 192 = .ok (.iconst 0, 1) := by decide +kernel
theorem dX3_digest_193 : decode cX3_digest 193 = .ok (.istore_n 3, 1) := by decide +kernel
theorem dX3_digest_194 : decode cX3_digest 194 = .ok (.iload_n 3, 1) := by decide +kernel
theorem dX3_digest_195 : decode cX3_digest 195 = .ok (.bipush 6, 2) := by decide +kernel
theorem dX3_digest_197 : decode cX3_digest 197 = .ok (.if_icmp .ge 39, 3) := by decide +kernel
theorem dX3_digest_200 : decode cX3_digest 200 = .ok (.iconst 0, 1) := by decide +kernel
theorem dX3_digest_201 : decode cX3_digest 201 = .ok (.istore 4, 2) := by decide +kernel
theorem dX3_digest_203 : decode cX3_digest 203 = .ok (.iload 4, 2) := by decide +kernel
theorem dX3_digest_205 : decode cX3_digest 205 = .ok (.iconst 3, 1) := by decide +kernel
theorem dX3_digest_206 : decode cX3_digest 206 = .ok (.if_icmp .gt 24, 3) := by decide +kernel
theorem dX3_digest_209 : decode cX3_digest 209 = .ok (.ldc2_w 174, 3) := by decide +kernel
theorem dX3_digest_212 : decode cX3_digest 212 = .ok (.lload_n 1, 1) := by decide +kernel
theorem dX3_digest_213 : decode cX3_digest 213 = .ok (.lmul, 1) := by decide +kernel
theorem dX3_digest_214 : decode cX3_digest 214 = .ok (.aload_n 0, 1) := by decide +kernel
theorem dX3_digest_215 : decode cX3_digest 215 = .ok (.iload_n 3, 1) := by decide +kernel
theorem dX3_digest_216 : decode cX3_digest 216 = .ok (.iload 4, 2) := by decide +kernel
theorem dX3_digest_218 : decode cX3_digest 218 = .ok (.invokevirtual 194, 3) := by decide +kernel
theorem dX3_digest_221 : decode cX3_digest 221 = .ok (.i2l, 1) := by decide +kernel
theorem dX3_digest_222 : decode cX3_digest 222 = .ok (.ladd, 1) := by decide +kernel
theorem dX3_digest_223 : decode cX3_digest 223 = .ok (.lstore_n 1, 1) := by decide +kernel
theorem dX3_digest_224 : decode cX3_digest 224 = .ok (.iinc 4 1, 3) := by decide +kernel
theorem dX3_digest_227 : decode cX3_digest 227 = .ok (.goto (-24), 3) := by decide +kernel
theorem dX3_digest_230 : decode cX3_digest 230 = .ok (.iinc 3 1, 3) := by decide +kernel
theorem dX3_digest_233 : decode cX3_digest 233 = .ok (.goto (-39), 3) := by decide +kernel
theorem dX3_digest_236 : decode cX3_digest 236 = .ok (.iconst 0, 1) := by decide +kernel
theorem dX3_digest_237 : decode cX3_digest 237 = .ok (.istore_n 3, 1) := by decide +kernel
theorem dX3_digest_238 : decode cX3_digest 238 = .ok (.iload_n 3, 1) := by decide +kernel
theorem dX3_digest_239 : decode cX3_digest 239 = .ok (.bipush 9, 2) := by decide +kernel
theorem dX3_digest_241 : decode cX3_digest 241 = .ok (.if_icmp .gt 22, 3) := by decide +kernel
theorem dX3_digest_244 : decode cX3_digest 244 = .ok (.ldc2_w 174, 3) := by decide +kernel
theorem dX3_digest_247 : decode cX3_digest 247 = .ok (.lload_n 1, 1) := by decide +kernel
theorem dX3_digest_248 : decode cX3_digest 248 = .ok (.lmul, 1) := by decide +kernel
theorem dX3_digest_249 : decode cX3_digest 249 = .ok (.aload_n 0, 1) := by decide +kernel
theorem dX3_digest_250 : decode cX3_digest 250 = .ok (.iload_n 3, 1) := by decide +kernel
theorem dX3_digest_251 : decode cX3_digest 251 = .ok (.invokevirtual 197, 3) := by decide +kernel
theorem dX3_digest_254 : decode cX3_digest 254 = .ok (.i2l, 1) := by decide +kernel
theorem dX3_digest_255 : decode cX3_digest 255 = .ok (.ladd, 1) := by decide +kernel
theorem dX3_digest_256 : decode cX3_digest 256 = .ok (.lstore_n 1, 1) := by decide +kernel
theorem dX3_digest_257 : decode cX3_digest 257 = .ok (.iinc 3 1, 3) := by decide +kernel
theorem dX3_digest_260 : decode cX3_digest 260 = .ok (.goto (-22), 3) := by decide +kernel
theorem dX3_digest_263 : decode cX3_digest 263 = .ok (.iconst 0, 1) := by decide +kernel
theorem dX3_digest_264 : decode cX3_digest 264 = .ok (.istore_n 3, 1) := by decide +kernel
theorem dX3_digest_265 : decode cX3_digest 265 = .ok (.iload_n 3, 1) := by decide +kernel
theorem dX3_digest_266 : decode cX3_digest 266 = .ok (.iconst 2, 1) := by decide +kernel
theorem dX3_digest_267 : decode cX3_digest 267 = .ok (.if_icmp .gt 24, 3) := by decide +kernel
theorem dX3_digest_270 : decode cX3_digest 270 = .ok (.ldc2_w 174, 3) := by decide +kernel
theorem dX3_digest_273 : decode cX3_digest 273 = .ok (.lload_n 1, 1) := by decide +kernel
theorem dX3_digest_274 : decode cX3_digest 274 = .ok (.lmul, 1) := by decide +kernel
theorem dX3_digest_275 : decode cX3_digest 275 = .ok (.aload_n 0, 1) := by decide +kernel
theorem dX3_digest_276 : decode cX3_digest 276 = .ok (.bipush 10, 2) := by decide +kernel
theorem dX3_digest_278 : decode cX3_digest 278 = .ok (.iload_n 3, 1) := by decide +kernel
theorem dX3_digest_279 : decode cX3_digest 279 = .ok (.invokevirtual 200, 3) := by decide +kernel
theorem dX3_digest_282 : decode cX3_digest 282 = .ok (.i2l, 1) := by decide +kernel
theorem dX3_digest_283 : decode cX3_digest 283 = .ok (.ladd, 1) := by decide +kernel
theorem dX3_digest_284 : decode cX3_digest 284 = .ok (.lstore_n 1, 1) := by decide +kernel
theorem dX3_digest_285 : decode cX3_digest 285 = .ok (.iinc 3 1, 3) := by decide +kernel
theorem dX3_digest_288 : decode cX3_digest 288 = .ok (.goto (-23), 3) := by decide +kernel
theorem dX3_digest_291 : decode cX3_digest 291 = .ok (.ldc2_w 174, 3) := by decide +kernel
theorem dX3_digest_294 : decode cX3_digest 294 = .ok (.lload_n 1, 1) := by decide +kernel
theorem dX3_digest_295 : decode cX3_digest 295 = .ok (.lmul, 1) := by decide +kernel
theorem dX3_digest_296 : decode cX3_digest 296 = .ok (.aload_n 0, 1) := by decide +kernel
theorem dX3_digest_297 : decode cX3_digest 297 = .ok (.invokevirtual 203, 3) := by decide +kernel
theorem dX3_digest_300 : decode cX3_digest 300 = .ok (.invokestatic 207, 3) := by decide +kernel
theorem dX3_digest_303 : decode cX3_digest 303 = .ok (.ladd, 1) := by decide +kernel
theorem dX3_digest_304 : decode cX3_digest 304 = .ok (.lstore_n 1, 1) := by decide +kernel
theorem dX3_digest_305 : decode cX3_digest 305 = .ok (.ldc2_w 174, 3) := by decide +kernel
theorem dX3_digest_308 : decode cX3_digest 308 = .ok (.lload_n 1, 1) := by decide +kernel
theorem dX3_digest_309 : decode cX3_digest 309 = .ok (.lmul, 1) := by decide +kernel
theorem dX3_digest_310 : decode cX3_digest 310 = .ok (.aload_n 0, 1) := by decide +kernel
theorem dX3_digest_311 : decode cX3_digest 311 = .ok (.getfield 34, 3) := by decide +kernel
theorem dX3_digest_314 : decode cX3_digest 314 = .ok (.invokevirtual 106, 3) := by decide +kernel
theorem dX3_digest_317 : decode cX3_digest 317 = .ok (.i2l, 1) := by decide +kernel
theorem dX3_digest_318 : decode cX3_digest 318 = .ok (.ladd, 1) := by decide +kernel
theorem dX3_digest_319 : decode cX3_digest 319 = .ok (.lstore_n 1, 1) := by decide +kernel
theorem dX3_digest_320 : decode cX3_digest 320 = .ok (.iconst 0, 1) := by decide +kernel
theorem dX3_digest_321 : decode cX3_digest 321 = .ok (.istore_n 3, 1) := by decide +kernel
theorem dX3_digest_322 : decode cX3_digest 322 = .ok (.iload_n 3, 1) := by decide +kernel
theorem dX3_digest_323 : decode cX3_digest 323 = .ok (.aload_n 0, 1) := by decide +kernel
theorem dX3_digest_324 : decode cX3_digest 324 = .ok (.getfield 34, 3) := by decide +kernel
theorem dX3_digest_327 : decode cX3_digest 327 = .ok (.invokevirtual 106, 3) := by decide +kernel
theorem dX3_digest_330 : decode cX3_digest 330 = .ok (.if_icmp .ge 25, 3) := by decide +kernel
theorem dX3_digest_333 : decode cX3_digest 333 = .ok (.ldc2_w 174, 3) := by decide +kernel
theorem dX3_digest_336 : decode cX3_digest 336 = .ok (.lload_n 1, 1) := by decide +kernel
theorem dX3_digest_337 : decode cX3_digest 337 = .ok (.lmul, 1) := by decide +kernel
theorem dX3_digest_338 : decode cX3_digest 338 = .ok (.aload_n 0, 1) := by decide +kernel
theorem dX3_digest_339 : decode cX3_digest 339 = .ok (.getfield 34, 3) := by decide +kernel
theorem dX3_digest_342 : decode cX3_digest 342 = .ok (.iload_n 3, 1) := by decide +kernel
theorem dX3_digest_343 : decode cX3_digest 343 = .ok (.invokevirtual 211, 3) := by decide +kernel
theorem dX3_digest_346 : decode cX3_digest 346 = .ok (.i2l, 1) := by decide +kernel
theorem dX3_digest_347 : decode cX3_digest 347 = .ok (.ladd, 1) := by decide +kernel
theorem dX3_digest_348 : decode cX3_digest 348 = .ok (.lstore_n 1, 1) := by decide +kernel
theorem dX3_digest_349 : decode cX3_digest 349 = .ok (.iinc 3 1, 3) := by decide +kernel
theorem dX3_digest_352 : decode cX3_digest 352 = .ok (.goto (-30), 3) := by decide +kernel
theorem dX3_digest_355 : decode cX3_digest 355 = .ok (.lload_n 1, 1) := by decide +kernel
theorem dX3_digest_356 : decode cX3_digest 356 = .ok (.lreturn, 1) := by decide +kernel
theorem dX3_bitsOf_0 : decode cX3_bitsOf 0 = .ok (.dload_n 0, 1) := by decide +kernel
theorem dX3_bitsOf_1 : decode cX3_bitsOf 1 = .ok (.dconst 0, 1) := by decide +kernel
theorem dX3_bitsOf_2 : decode cX3_bitsOf 2 = .ok (.dcmp .g, 1) := by decide +kernel
theorem dX3_bitsOf_3 : decode cX3_bitsOf 3 = .ok (.ifCond .gt 5, 3) := by decide +kernel
theorem dX3_bitsOf_6 : decode cX3_bitsOf 6 = .ok (.lconst 0, 1) := by decide +kernel
theorem dX3_bitsOf_7 : decode cX3_bitsOf 7 = .ok (.lreturn, 1) := by decide +kernel
theorem dX3_bitsOf_8 : decode cX3_bitsOf 8 = .ok (.dload_n 0, 1) := by decide +kernel
theorem dX3_bitsOf_9 : decode cX3_bitsOf 9 = .ok (.dstore_n 2, 1) := by decide +kernel
theorem dX3_bitsOf_10 : decode cX3_bitsOf 10 = .ok (.ldc2_w 215, 3) := by decide +kernel
theorem dX3_bitsOf_13 : decode cX3_bitsOf 13 = .ok (.lstore 4, 2) := by decide +kernel
theorem dX3_bitsOf_15 : decode cX3_bitsOf 15 = .ok (.iconst 0, 1) := by decide +kernel
theorem dX3_bitsOf_16 : decode cX3_bitsOf 16 = .ok (.istore 6, 2) := by decide +kernel
theorem dX3_bitsOf_18 : decode cX3_bitsOf 18 = .ok (.iload 6, 2) := by decide +kernel
theorem dX3_bitsOf_20 : decode cX3_bitsOf 20 = .ok (.sipush 1022, 3) := by decide +kernel
theorem dX3_bitsOf_23 : decode cX3_bitsOf 23 = .ok (.if_icmp .ge 27, 3) := by decide +kernel
theorem dX3_bitsOf_26 : decode cX3_bitsOf 26 = .ok (.dload_n 2, 1) := by decide +kernel
theorem dX3_bitsOf_27 : decode cX3_bitsOf 27 = .ok (.dconst 1, 1) := by decide +kernel
theorem dX3_bitsOf_28 : decode cX3_bitsOf 28 = .ok (.dcmp .g, 1) := by decide +kernel
theorem dX3_bitsOf_29 : decode cX3_bitsOf 29 = .ok (.ifCond .ge 21, 3) := by decide +kernel
theorem dX3_bitsOf_32 : decode cX3_bitsOf 32 = .ok (.dload_n 2, 1) := by decide +kernel
theorem dX3_bitsOf_33 : decode cX3_bitsOf 33 = .ok (.ldc2_w 217, 3) := by decide +kernel
theorem dX3_bitsOf_36 : decode cX3_bitsOf 36 = .ok (.dmul, 1) := by decide +kernel
theorem dX3_bitsOf_37 : decode cX3_bitsOf 37 = .ok (.dstore_n 2, 1) := by decide +kernel
theorem dX3_bitsOf_38 : decode cX3_bitsOf 38 = .ok (.lload 4, 2) := by decide +kernel
theorem dX3_bitsOf_40 : decode cX3_bitsOf 40 = .ok (.lconst 1, 1) := by decide +kernel
theorem dX3_bitsOf_41 : decode cX3_bitsOf 41 = .ok (.lsub, 1) := by decide +kernel
theorem dX3_bitsOf_42 : decode cX3_bitsOf 42 = .ok (.lstore 4, 2) := by decide +kernel
theorem dX3_bitsOf_44 : decode cX3_bitsOf 44 = .ok (.iinc 6 1, 3) := by decide +kernel
theorem dX3_bitsOf_47 : decode cX3_bitsOf 47 = .ok (.goto (-29), 3) := by decide +kernel
theorem dX3_bitsOf_50 : decode cX3_bitsOf 50 = .ok (.lload 4, 2) := by decide +kernel
theorem dX3_bitsOf_52 : decode cX3_bitsOf 52 = .ok (.bipush 52, 2) := by decide +kernel
theorem dX3_bitsOf_54 : decode cX3_bitsOf 54 = .ok (.lshl, 1) := by decide +kernel
theorem dX3_bitsOf_55 : decode cX3_bitsOf 55 = .ok (.dload_n 2, 1) := by decide +kernel
theorem dX3_bitsOf_56 : decode cX3_bitsOf 56 = .ok (.dconst 1, 1) := by decide +kernel
theorem dX3_bitsOf_57 : decode cX3_bitsOf 57 = .ok (.dsub, 1) := by decide +kernel
theorem dX3_bitsOf_58 : decode cX3_bitsOf 58 = .ok (.ldc2_w 219, 3) := by decide +kernel
theorem dX3_bitsOf_61 : decode cX3_bitsOf 61 = .ok (.dmul, 1) := by decide +kernel
theorem dX3_bitsOf_62 : decode cX3_bitsOf 62 = .ok (.d2l, 1) := by decide +kernel
theorem dX3_bitsOf_63 : decode cX3_bitsOf 63 = .ok (.ladd, 1) := by decide +kernel
theorem dX3_bitsOf_64 : decode cX3_bitsOf 64 = .ok (.lreturn, 1) := by decide +kernel
set_option maxRecDepth 20000 in
theorem ggX3_playPart_X2_signAt : GoodIn wsX3_playPart wsX2_signAt := goodIn_r _ [7, 8, 9, 117, 118] (by decide +kernel) (by decide +kernel)
set_option maxRecDepth 20000 in
theorem gX3_playPart_X2_signAt : GoodIn wsX3_playPart (wsV RX3 211 RX2 yX2_signAt wsX2_signAt) := goodIn_app (goodIn_of _ (by decide +kernel)) ggX3_playPart_X2_signAt
set_option maxRecDepth 20000 in
theorem ggX3_playPart_X2_numberAt : GoodIn wsX3_playPart wsX2_numberAt := goodIn_r _ [13, 14, 4, 5, 6, 7, 8, 9, 15, 16, 17, 117, 118] (by decide +kernel) (by decide +kernel)
set_option maxRecDepth 20000 in
theorem gX3_playPart_X2_numberAt : GoodIn wsX3_playPart (wsV RX3 221 RX2 yX2_numberAt wsX2_numberAt) := goodIn_app (goodIn_of _ (by decide +kernel)) ggX3_playPart_X2_numberAt
set_option maxRecDepth 20000 in
theorem ggX3_playPart_X0_reasonAgainst : GoodIn wsX3_playPart wsX0_reasonAgainst := goodIn_r _ [22, 23, 24, 21, 25, 26, 27, 28, 29, 30, 31, 32, 33, 34, 119] (by decide +kernel) (by decide +kernel)
set_option maxRecDepth 20000 in
theorem gX3_playPart_X0_reasonAgainst : GoodIn wsX3_playPart (wsV RX3 57 RX0 yX0_reasonAgainst wsX0_reasonAgainst) := goodIn_app (goodIn_of _ (by decide +kernel)) ggX3_playPart_X0_reasonAgainst
set_option maxRecDepth 20000 in
theorem ggX3_playPart_X0_setToWork : GoodIn wsX3_playPart wsX0_setToWork := goodIn_r _ [38, 39, 40, 41, 21, 42, 30, 119] (by decide +kernel) (by decide +kernel)
set_option maxRecDepth 20000 in
theorem gX3_playPart_X0_setToWork : GoodIn wsX3_playPart (wsV RX3 64 RX0 yX0_setToWork wsX0_setToWork) := goodIn_app (goodIn_of _ (by decide +kernel)) ggX3_playPart_X0_setToWork
set_option maxRecDepth 20000 in
theorem ggX3_playPart_X0_letRest : GoodIn wsX3_playPart wsX0_letRest := goodIn_r _ [46, 47, 36, 37, 21, 38, 39, 40, 41, 42, 30, 119] (by decide +kernel) (by decide +kernel)
set_option maxRecDepth 20000 in
theorem gX3_playPart_X0_letRest : GoodIn wsX3_playPart (wsV RX3 70 RX0 yX0_letRest wsX0_letRest) := goodIn_app (goodIn_of _ (by decide +kernel)) ggX3_playPart_X0_letRest
set_option maxRecDepth 20000 in
theorem ggX3_playPart_X0_passDays : GoodIn wsX3_playPart wsX0_passDays := goodIn_r _ [51, 52, 53, 54, 21, 55, 26, 27, 28, 29, 30, 39, 40, 41, 42, 56, 57, 58, 59, 60, 61, 62, 63, 64, 65, 66, 67, 68, 69, 70, 71, 72, 73, 74, 75, 76, 77, 78, 79, 80, 81, 82, 83, 84, 85, 86, 23, 24, 25, 87, 88, 89, 90, 91, 92, 93, 94, 95, 96, 97, 98, 99, 100, 101, 102, 103, 104, 105, 106, 119] (by decide +kernel) (by decide +kernel)
set_option maxRecDepth 20000 in
theorem gX3_playPart_X0_passDays : GoodIn wsX3_playPart (wsV RX3 96 RX0 yX0_passDays wsX0_passDays) := goodIn_app (goodIn_of _ (by decide +kernel)) ggX3_playPart_X0_passDays
set_option maxRecDepth 20000 in
theorem ggX3_playPart_X0_turnSnow : GoodIn wsX3_playPart wsX0_turnSnow := goodIn_r _ [110, 26, 27, 28, 21, 29, 30, 39, 40, 41, 42, 111, 44, 45, 46, 47, 36, 37, 38, 119] (by decide +kernel) (by decide +kernel)
set_option maxRecDepth 20000 in
theorem gX3_playPart_X0_turnSnow : GoodIn wsX3_playPart (wsV RX3 93 RX0 yX0_turnSnow wsX0_turnSnow) := goodIn_app (goodIn_of _ (by decide +kernel)) ggX3_playPart_X0_turnSnow
theorem dX3_playPart_0 : decode cX3_playPart 0 = .ok (.aload_n 0, 1) := by decide +kernel
theorem dX3_playPart_1 : decode cX3_playPart 1 = .ok (.getfield 34, 3) := by decide +kernel
theorem dX3_playPart_4 : decode cX3_playPart 4 = .ok (.iload_n 1, 1) := by decide +kernel
theorem dX3_playPart_5 : decode cX3_playPart 5 = .ok (.invokevirtual 211, 3) := by decide +kernel
theorem dX3_playPart_8 : decode cX3_playPart 8 = .ok (.istore_n 2, 1) := by decide +kernel
theorem dX3_playPart_9 : decode cX3_playPart 9 = .ok (.aload_n 0, 1) := by decide +kernel
theorem dX3_playPart_10 : decode cX3_playPart 10 = .ok (.getfield 34, 3) := by decide +kernel
theorem dX3_playPart_13 : decode cX3_playPart 13 = .ok (.iload_n 1, 1) := by decide +kernel
theorem dX3_playPart_14 : decode cX3_playPart 14 = .ok (.iconst 1, 1) := by decide +kernel
theorem dX3_playPart_15 : decode cX3_playPart 15 = .ok (.iadd, 1) := by decide +kernel
theorem dX3_playPart_16 : decode cX3_playPart 16 = .ok (.invokevirtual 221, 3) := by decide +kernel
theorem dX3_playPart_19 : decode cX3_playPart 19 = .ok (.istore_n 3, 1) := by decide +kernel
theorem dX3_playPart_20 : decode cX3_playPart 20 = .ok (.iload_n 2, 1) := by decide +kernel
theorem dX3_playPart_21 : decode cX3_playPart 21 = .ok (.bipush 99, 2) := by decide +kernel
theorem dX3_playPart_23 : decode cX3_playPart 23 = .ok (.if_icmp .ne 58, 3) := by decide +kernel
theorem dX3_playPart_26 : decode cX3_playPart 26 = .ok (.aload_n 0, 1) := by decide +kernel
theorem dX3_playPart_27 : decode cX3_playPart 27 = .ok (.getfield 34, 3) := by decide +kernel
theorem dX3_playPart_30 : decode cX3_playPart 30 = .ok (.iload_n 1, 1) := by decide +kernel
theorem dX3_playPart_31 : decode cX3_playPart 31 = .ok (.iconst 3, 1) := by decide +kernel
theorem dX3_playPart_32 : decode cX3_playPart 32 = .ok (.iadd, 1) := by decide +kernel
theorem dX3_playPart_33 : decode cX3_playPart 33 = .ok (.invokevirtual 221, 3) := by decide +kernel
theorem dX3_playPart_36 : decode cX3_playPart 36 = .ok (.istore 4, 2) := by decide +kernel
theorem dX3_playPart_38 : decode cX3_playPart 38 = .ok (.aload_n 0, 1) := by decide +kernel
theorem dX3_playPart_39 : decode cX3_playPart 39 = .ok (.getfield 34, 3) := by decide +kernel
theorem dX3_playPart_42 : decode cX3_playPart 42 = .ok (.iload_n 1, 1) := by decide +kernel
theorem dX3_playPart_43 : decode cX3_playPart 43 = .ok (.iconst 5, 1) := by decide +kernel
theorem dX3_playPart_44 : decode cX3_playPart 44 = .ok (.iadd, 1) := by decide +kernel
theorem dX3_playPart_45 : decode cX3_playPart 45 = .ok (.invokevirtual 221, 3) := by decide +kernel
theorem dX3_playPart_48 : decode cX3_playPart 48 = .ok (.istore 5, 2) := by decide +kernel
theorem dX3_playPart_50 : decode cX3_playPart 50 = .ok (.aload_n 0, 1) := by decide +kernel
theorem dX3_playPart_51 : decode cX3_playPart 51 = .ok (.getfield 12, 3) := by decide +kernel
theorem dX3_playPart_54 : decode cX3_playPart 54 = .ok (.iload 4, 2) := by decide +kernel
theorem dX3_playPart_56 : decode cX3_playPart 56 = .ok (.iload 5, 2) := by decide +kernel
theorem dX3_playPart_58 : decode cX3_playPart 58 = .ok (.invokevirtual 57, 3) := by decide +kernel
theorem dX3_playPart_61 : decode cX3_playPart 61 = .ok (.ifCond .eq 5, 3) := by decide +kernel
theorem dX3_playPart_64 : decode cX3_playPart 64 = .ok (.iconst 0, 1) := by decide +kernel
theorem dX3_playPart_65 : decode cX3_playPart 65 = .ok (.ireturn, 1) := by decide +kernel
theorem dX3_playPart_66 : decode cX3_playPart 66 = .ok (.aload_n 0, 1) := by decide +kernel
theorem dX3_playPart_67 : decode cX3_playPart 67 = .ok (.getfield 12, 3) := by decide +kernel
theorem dX3_playPart_70 : decode cX3_playPart 70 = .ok (.iload_n 3, 1) := by decide +kernel
theorem dX3_playPart_71 : decode cX3_playPart 71 = .ok (.iload 4, 2) := by decide +kernel
theorem dX3_playPart_73 : decode cX3_playPart 73 = .ok (.iload 5, 2) := by decide +kernel
theorem dX3_playPart_75 : decode cX3_playPart 75 = .ok (.invokevirtual 64, 3) := by decide +kernel
theorem dX3_playPart_78 : decode cX3_playPart 78 = .ok (.goto 45, 3) := by decide +kernel
theorem dX3_playPart_81 : decode cX3_playPart 81 = .ok (.iload_n 2, 1) := by decide +kernel
theorem dX3_playPart_82 : decode cX3_playPart 82 = .ok (.bipush 114, 2) := by decide +kernel
theorem dX3_playPart_84 : decode cX3_playPart 84 = .ok (.if_icmp .ne 14, 3) := by decide +kernel
theorem dX3_playPart_87 : decode cX3_playPart 87 = .ok (.aload_n 0, 1) := by decide +kernel
theorem dX3_playPart_88 : decode cX3_playPart 88 = .ok (.getfield 12, 3) := by decide +kernel
theorem dX3_playPart_91 : decode cX3_playPart 91 = .ok (.iload_n 3, 1) := by decide +kernel
theorem dX3_playPart_92 : decode cX3_playPart 92 = .ok (.invokevirtual 70, 3) := by decide +kernel
theorem dX3_playPart_95 : decode cX3_playPart 95 = .ok (.goto 28, 3) := by decide +kernel
theorem dX3_playPart_98 : decode cX3_playPart 98 = .ok (.iload_n 2, 1) := by decide +kernel
theorem dX3_playPart_99 : decode cX3_playPart 99 = .ok (.bipush 43, 2) := by decide +kernel
theorem dX3_playPart_101 : decode cX3_playPart 101 = .ok (.if_icmp .ne 15, 3) := by decide +kernel
theorem dX3_playPart_104 : decode cX3_playPart 104 = .ok (.aload_n 0, 1) := by decide +kernel
theorem dX3_playPart_105 : decode cX3_playPart 105 = .ok (.getfield 12, 3) := by decide +kernel
theorem dX3_playPart_108 : decode cX3_playPart 108 = .ok (.iload_n 3, 1) := by decide +kernel
theorem dX3_playPart_109 : decode cX3_playPart 109 = .ok (.invokevirtual 96, 3) := by decide +kernel
theorem dX3_playPart_112 : decode cX3_playPart 112 = .ok (.pop, 1) := by decide +kernel
theorem dX3_playPart_113 : decode cX3_playPart 113 = .ok (.goto 10, 3) := by decide +kernel
theorem dX3_playPart_116 : decode cX3_playPart 116 = .ok (.aload_n 0, 1) := by decide +kernel
theorem dX3_playPart_117 : decode cX3_playPart 117 = .ok (.getfield 12, 3) := by decide +kernel
theorem dX3_playPart_120 : decode cX3_playPart 120 = .ok (.invokevirtual 93, 3) := by decide +kernel
theorem dX3_playPart_123 : decode cX3_playPart 123 = .ok (.iconst 1, 1) := by decide +kernel
theorem dX3_playPart_124 : decode cX3_playPart 124 = .ok (.ireturn, 1) := by decide +kernel
theorem dX3_requireIndex_0 : decode cX3_requireIndex 0 = .ok (.iload_n 0, 1) := by decide +kernel
theorem dX3_requireIndex_1 : decode cX3_requireIndex 1 = .ok (.ifCond .lt 8, 3) := by decide +kernel
theorem dX3_requireIndex_4 : decode cX3_requireIndex 4 = .ok (.iload_n 0, 1) := by decide +kernel
theorem dX3_requireIndex_5 : decode cX3_requireIndex 5 = .ok (.iload_n 1, 1) := by decide +kernel
theorem dX3_requireIndex_6 : decode cX3_requireIndex 6 = .ok (.if_icmp .lt 13, 3) := by decide +kernel
theorem dX3_requireIndex_9 : decode cX3_requireIndex 9 = .ok (.new 224, 3) := by decide +kernel
theorem dX3_requireIndex_12 : decode cX3_requireIndex 12 = .ok (.dup, 1) := by decide +kernel
theorem dX3_requireIndex_13 : decode cX3_requireIndex 13 = .ok (.ldc 226, 2) := by decide +kernel
theorem dX3_requireIndex_15 : decode cX3_requireIndex 15 = .ok (.invokespecial 228, 3) := by decide +kernel
theorem dX3_requireIndex_18 : decode cX3_requireIndex 18 = .ok (.athrow, 1) := by decide +kernel
theorem dX3_requireIndex_19 : decode cX3_requireIndex 19 = .ok (.return_, 1) := by decide +kernel
set_option maxRecDepth 20000 in
theorem ggX3_requireHolder_X3_requireIndex : GoodIn wsX3_requireHolder wsX3_requireIndex := goodIn_ca (goodIn_r _ [4, 5, 6] (by decide +kernel) (by decide +kernel)) (goodIn_sub (fun _ h => List.mem_cons_of_mem _ (List.mem_append_right _ h)) (by decide +kernel))
set_option maxRecDepth 20000 in
theorem gX3_requireHolder_X3_requireIndex : GoodIn wsX3_requireHolder (va_wsS RX3 38 yX3_requireIndex wsX3_requireIndex) := goodIn_app (goodIn_of _ (by decide +kernel)) ggX3_requireHolder_X3_requireIndex
theorem dX3_requireHolder_0 : decode cX3_requireHolder 0 = .ok (.iload_n 0, 1) := by decide +kernel
theorem dX3_requireHolder_1 : decode cX3_requireHolder 1 = .ok (.iconst (-1), 1) := by decide +kernel
theorem dX3_requireHolder_2 : decode cX3_requireHolder 2 = .ok (.if_icmp .eq 8, 3) := by decide +kernel
theorem dX3_requireHolder_5 : decode cX3_requireHolder 5 = .ok (.iload_n 0, 1) := by decide +kernel
theorem dX3_requireHolder_6 : decode cX3_requireHolder 6 = .ok (.iconst 5, 1) := by decide +kernel
theorem dX3_requireHolder_7 : decode cX3_requireHolder 7 = .ok (.invokestatic 38, 3) := by decide +kernel
theorem dX3_requireHolder_10 : decode cX3_requireHolder 10 = .ok (.return_, 1) := by decide +kernel
set_option maxRecDepth 20000 in
theorem ggX3_requireRange_X3_requireArgument : GoodIn wsX3_requireRange wsX3_requireArgument := goodIn_ca (goodIn_r _ [4, 5, 6] (by decide +kernel) (by decide +kernel)) (goodIn_sub (fun _ h => List.mem_cons_of_mem _ (List.mem_append_right _ h)) (by decide +kernel))
set_option maxRecDepth 20000 in
theorem gX3_requireRange_X3_requireArgument : GoodIn wsX3_requireRange (va_wsS RX3 80 yX3_requireArgument wsX3_requireArgument) := goodIn_app (goodIn_of _ (by decide +kernel)) ggX3_requireRange_X3_requireArgument
theorem dX3_requireRange_0 : decode cX3_requireRange 0 = .ok (.iload_n 0, 1) := by decide +kernel
theorem dX3_requireRange_1 : decode cX3_requireRange 1 = .ok (.iload_n 1, 1) := by decide +kernel
theorem dX3_requireRange_2 : decode cX3_requireRange 2 = .ok (.if_icmp .lt 12, 3) := by decide +kernel
theorem dX3_requireRange_5 : decode cX3_requireRange 5 = .ok (.iload_n 0, 1) := by decide +kernel
theorem dX3_requireRange_6 : decode cX3_requireRange 6 = .ok (.iload_n 2, 1) := by decide +kernel
theorem dX3_requireRange_7 : decode cX3_requireRange 7 = .ok (.if_icmp .gt 7, 3) := by decide +kernel
theorem dX3_requireRange_10 : decode cX3_requireRange 10 = .ok (.iconst 1, 1) := by decide +kernel
theorem dX3_requireRange_11 : decode cX3_requireRange 11 = .ok (.goto 4, 3) := by decide +kernel
theorem dX3_requireRange_14 : decode cX3_requireRange 14 = .ok (.iconst 0, 1) := by decide +kernel
theorem dX3_requireRange_15 : decode cX3_requireRange 15 = .ok (.invokestatic 80, 3) := by decide +kernel
theorem dX3_requireRange_18 : decode cX3_requireRange 18 = .ok (.return_, 1) := by decide +kernel
theorem dX3_requireArgument_0 : decode cX3_requireArgument 0 = .ok (.iload_n 0, 1) := by decide +kernel
theorem dX3_requireArgument_1 : decode cX3_requireArgument 1 = .ok (.ifCond .ne 13, 3) := by decide +kernel
theorem dX3_requireArgument_4 : decode cX3_requireArgument 4 = .ok (.new 231, 3) := by decide +kernel
theorem dX3_requireArgument_7 : decode cX3_requireArgument 7 = .ok (.dup, 1) := by decide +kernel
theorem dX3_requireArgument_8 : decode cX3_requireArgument 8 = .ok (.ldc 233, 2) := by decide +kernel
theorem dX3_requireArgument_10 : decode cX3_requireArgument 10 = .ok (.invokespecial 235, 3) := by decide +kernel
theorem dX3_requireArgument_13 : decode cX3_requireArgument 13 = .ok (.athrow, 1) := by decide +kernel
theorem dX3_requireArgument_14 : decode cX3_requireArgument 14 = .ok (.return_, 1) := by decide +kernel
theorem dX3_requireState_0 : decode cX3_requireState 0 = .ok (.iload_n 0, 1) := by decide +kernel
theorem dX3_requireState_1 : decode cX3_requireState 1 = .ok (.ifCond .ne 13, 3) := by decide +kernel
theorem dX3_requireState_4 : decode cX3_requireState 4 = .ok (.new 236, 3) := by decide +kernel
theorem dX3_requireState_7 : decode cX3_requireState 7 = .ok (.dup, 1) := by decide +kernel
theorem dX3_requireState_8 : decode cX3_requireState 8 = .ok (.ldc 238, 2) := by decide +kernel
theorem dX3_requireState_10 : decode cX3_requireState 10 = .ok (.invokespecial 240, 3) := by decide +kernel
theorem dX3_requireState_13 : decode cX3_requireState 13 = .ok (.athrow, 1) := by decide +kernel
theorem dX3_requireState_14 : decode cX3_requireState 14 = .ok (.return_, 1) := by decide +kernel

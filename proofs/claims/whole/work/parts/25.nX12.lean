/-! names of Shelf and Text -/
theorem dX1_init_0 : decode cX1_init 0 = .ok (.aload_n 0, 1) := by decide +kernel
theorem dX1_init_1 : decode cX1_init 1 = .ok (.invokespecial 3, 3) := by decide +kernel
theorem dX1_init_4 : decode cX1_init 4 = .ok (.aload_n 0, 1) := by decide +kernel
theorem dX1_init_5 : decode cX1_init 5 = .ok (.iconst 1, 1) := by decide +kernel
theorem dX1_init_6 : decode cX1_init 6 = .ok (.iload_n 1, 1) := by decide +kernel
theorem dX1_init_7 : decode cX1_init 7 = .ok (.bipush 6, 2) := by decide +kernel
theorem dX1_init_9 : decode cX1_init 9 = .ok (.invokestatic 9, 3) := by decide +kernel
theorem dX1_init_12 : decode cX1_init 12 = .ok (.invokestatic 15, 3) := by decide +kernel
theorem dX1_init_15 : decode cX1_init 15 = .ok (.putfield 18, 3) := by decide +kernel
theorem dX1_init_18 : decode cX1_init 18 = .ok (.aload_n 0, 1) := by decide +kernel
theorem dX1_init_19 : decode cX1_init 19 = .ok (.aload_n 0, 1) := by decide +kernel
theorem dX1_init_20 : decode cX1_init 20 = .ok (.getfield 18, 3) := by decide +kernel
theorem dX1_init_23 : decode cX1_init 23 = .ok (.sipush 161, 3) := by decide +kernel
theorem dX1_init_26 : decode cX1_init 26 = .ok (.imul, 1) := by decide +kernel
theorem dX1_init_27 : decode cX1_init 27 = .ok (.newarray .int, 2) := by decide +kernel
theorem dX1_init_29 : decode cX1_init 29 = .ok (.putfield 26, 3) := by decide +kernel
theorem dX1_init_32 : decode cX1_init 32 = .ok (.return_, 1) := by decide +kernel
theorem dX1_size_0 : decode cX1_size 0 = .ok (.aload_n 0, 1) := by decide +kernel
theorem dX1_size_1 : decode cX1_size 1 = .ok (.getfield 30, 3) := by decide +kernel
theorem dX1_size_4 : decode cX1_size 4 = .ok (.ireturn, 1) := by decide +kernel
set_option maxRecDepth 20000 in
theorem ggX1_push_X1_isInside : GoodIn wsX1_push wsX1_isInside := goodIn_r _ [13, 8, 20, 21, 22, 23] (by decide +kernel) (by decide +kernel)
set_option maxRecDepth 20000 in
theorem gX1_push_X1_isInside : GoodIn wsX1_push (wsV RX1 36 RX1 yX1_isInside wsX1_isInside) := goodIn_app (goodIn_of _ (by decide +kernel)) ggX1_push_X1_isInside
set_option maxRecDepth 20000 in
theorem ggX1_push_X0_at : GoodIn wsX1_push wsX0_at := goodIn_r _ [18, 19, 24] (by decide +kernel) (by decide +kernel)
set_option maxRecDepth 20000 in
theorem gX1_push_X0_at : GoodIn wsX1_push (wsV RX1 40 RX0 yX0_at wsX0_at) := goodIn_app (goodIn_of _ (by decide +kernel)) ggX1_push_X0_at
theorem dX1_push_0 : decode cX1_push 0 = .ok (.aload_n 0, 1) := by decide +kernel
theorem dX1_push_1 : decode cX1_push 1 = .ok (.aload_n 0, 1) := by decide +kernel
theorem dX1_push_2 : decode cX1_push 2 = .ok (.getfield 33, 3) := by decide +kernel
theorem dX1_push_5 : decode cX1_push 5 = .ok (.iconst 1, 1) := by decide +kernel
theorem dX1_push_6 : decode cX1_push 6 = .ok (.iadd, 1) := by decide +kernel
theorem dX1_push_7 : decode cX1_push 7 = .ok (.aload_n 0, 1) := by decide +kernel
theorem dX1_push_8 : decode cX1_push 8 = .ok (.getfield 18, 3) := by decide +kernel
theorem dX1_push_11 : decode cX1_push 11 = .ok (.if_icmp .ge 12, 3) := by decide +kernel
theorem dX1_push_14 : decode cX1_push 14 = .ok (.aload_n 0, 1) := by decide +kernel
theorem dX1_push_15 : decode cX1_push 15 = .ok (.getfield 33, 3) := by decide +kernel
theorem dX1_push_18 : decode cX1_push 18 = .ok (.iconst 1, 1) := by decide +kernel
theorem dX1_push_19 : decode cX1_push 19 = .ok (.iadd, 1) := by decide +kernel
theorem dX1_push_20 : decode cX1_push 20 = .ok (.goto 4, 3) := by decide +kernel
theorem dX1_push_23 : decode cX1_push 23 = .ok (.iconst 0, 1) := by decide +kernel
theorem dX1_push_24 : decode cX1_push 24 = .ok (.putfield 33, 3) := by decide +kernel
theorem dX1_push_27 : decode cX1_push 27 = .ok (.aload_n 0, 1) := by decide +kernel
theorem dX1_push_28 : decode cX1_push 28 = .ok (.aload_n 0, 1) := by decide +kernel
theorem dX1_push_29 : decode cX1_push 29 = .ok (.getfield 30, 3) := by decide +kernel
theorem dX1_push_32 : decode cX1_push 32 = .ok (.iconst 1, 1) := by decide +kernel
theorem dX1_push_33 : decode cX1_push 33 = .ok (.iadd, 1) := by decide +kernel
theorem dX1_push_34 : decode cX1_push 34 = .ok (.aload_n 0, 1) := by decide +kernel
theorem dX1_push_35 : decode cX1_push 35 = .ok (.getfield 18, 3) := by decide +kernel
theorem dX1_push_38 : decode cX1_push 38 = .ok (.invokestatic 9, 3) := by decide +kernel
theorem dX1_push_41 : decode cX1_push 41 = .ok (.putfield 30, 3) := by decide +kernel
theorem dX1_push_44 : decode cX1_push 44 = .ok (.aload_n 0, 1) := by decide +kernel
theorem dX1_push_45 : decode cX1_push 45 = .ok (.getfield 33, 3) := by decide +kernel
theorem dX1_push_48 : decode cX1_push 48 = .ok (.sipush 161, 3) := by decide +kernel
theorem dX1_push_51 : decode cX1_push 51 = .ok (.imul, 1) := by decide +kernel
theorem dX1_push_52 : decode cX1_push 52 = .ok (.istore_n 2, 1) := by decide +kernel
theorem dX1_push_53 : decode cX1_push 53 = .ok (.iconst 0, 1) := by decide +kernel
theorem dX1_push_54 : decode cX1_push 54 = .ok (.istore_n 3, 1) := by decide +kernel
theorem dX1_push_55 : decode cX1_push 55 = .ok (.iload_n 3, 1) := by decide +kernel
theorem dX1_push_56 : decode cX1_push 56 = .ok (.sipush 161, 3) := by decide +kernel
theorem dX1_push_59 : decode cX1_push 59 = .ok (.if_icmp .ge 32, 3) := by decide +kernel
theorem dX1_push_62 : decode cX1_push 62 = .ok (.aload_n 0, 1) := by decide +kernel
theorem dX1_push_63 : decode cX1_push 63 = .ok (.iload_n 2, 1) := by decide +kernel
theorem dX1_push_64 : decode cX1_push 64 = .ok (.iload_n 3, 1) := by decide +kernel
theorem dX1_push_65 : decode cX1_push 65 = .ok (.iadd, 1) := by decide +kernel
theorem dX1_push_66 : decode cX1_push 66 = .ok (.invokevirtual 36, 3) := by decide +kernel
theorem dX1_push_69 : decode cX1_push 69 = .ok (.ifCond .eq 16, 3) := by decide +kernel
theorem dX1_push_72 : decode cX1_push 72 = .ok (.aload_n 0, 1) := by decide +kernel
theorem dX1_push_73 : decode cX1_push 73 = .ok (.getfield 26, 3) := by decide +kernel
theorem dX1_push_76 : decode cX1_push 76 = .ok (.iload_n 2, 1) := by decide +kernel
theorem dX1_push_77 : decode cX1_push 77 = .ok (.iload_n 3, 1) := by decide +kernel
theorem dX1_push_78 : decode cX1_push 78 = .ok (.iadd, 1) := by decide +kernel
theorem dX1_push_79 : decode cX1_push 79 = .ok (.aload_n 1, 1) := by decide +kernel
theorem dX1_push_80 : decode cX1_push 80 = .ok (.iload_n 3, 1) := by decide +kernel
theorem dX1_push_81 : decode cX1_push 81 = .ok (.invokevirtual 40, 3) := by decide +kernel
theorem dX1_push_84 : decode cX1_push 84 = .ok (.iastore, 1) := by decide +kernel
theorem dX1_push_85 : decode cX1_push 85 = .ok (.iinc 3 1, 3) := by decide +kernel
theorem dX1_push_88 : decode cX1_push 88 = .ok (.goto (-33), 3) := by decide +kernel
theorem dX1_push_91 : decode cX1_push 91 = .ok (.return_, 1) := by decide +kernel
set_option maxRecDepth 20000 in
theorem ggX1_showTop_X1_isInside : GoodIn wsX1_showTop wsX1_isInside := goodIn_r _ [7, 2, 14, 15, 16, 17] (by decide +kernel) (by decide +kernel)
set_option maxRecDepth 20000 in
theorem gX1_showTop_X1_isInside : GoodIn wsX1_showTop (wsV RX1 36 RX1 yX1_isInside wsX1_isInside) := goodIn_app (goodIn_of _ (by decide +kernel)) ggX1_showTop_X1_isInside
set_option maxRecDepth 20000 in
theorem ggX1_showTop_X0_put : GoodIn wsX1_showTop wsX0_put := goodIn_r _ [12, 13, 18] (by decide +kernel) (by decide +kernel)
set_option maxRecDepth 20000 in
theorem gX1_showTop_X0_put : GoodIn wsX1_showTop (wsV RX1 44 RX0 yX0_put wsX0_put) := goodIn_app (goodIn_of _ (by decide +kernel)) ggX1_showTop_X0_put
theorem dX1_showTop_0 : decode cX1_showTop 0 = .ok (.aload_n 0, 1) := by decide +kernel
theorem dX1_showTop_1 : decode cX1_showTop 1 = .ok (.getfield 33, 3) := by decide +kernel
theorem dX1_showTop_4 : decode cX1_showTop 4 = .ok (.sipush 161, 3) := by decide +kernel
theorem dX1_showTop_7 : decode cX1_showTop 7 = .ok (.imul, 1) := by decide +kernel
theorem dX1_showTop_8 : decode cX1_showTop 8 = .ok (.istore_n 2, 1) := by decide +kernel
theorem dX1_showTop_9 : decode cX1_showTop 9 = .ok (.iconst 0, 1) := by decide +kernel
theorem dX1_showTop_10 : decode cX1_showTop 10 = .ok (.istore_n 3, 1) := by decide +kernel
theorem dX1_showTop_11 : decode cX1_showTop 11 = .ok (.iload_n 3, 1) := by decide +kernel
theorem dX1_showTop_12 : decode cX1_showTop 12 = .ok (.sipush 161, 3) := by decide +kernel
theorem dX1_showTop_15 : decode cX1_showTop 15 = .ok (.if_icmp .ge 32, 3) := by decide +kernel
theorem dX1_showTop_18 : decode cX1_showTop 18 = .ok (.aload_n 0, 1) := by decide +kernel
theorem dX1_showTop_19 : decode cX1_showTop 19 = .ok (.iload_n 2, 1) := by decide +kernel
theorem dX1_showTop_20 : decode cX1_showTop 20 = .ok (.iload_n 3, 1) := by decide +kernel
theorem dX1_showTop_21 : decode cX1_showTop 21 = .ok (.iadd, 1) := by decide +kernel
theorem dX1_showTop_22 : decode cX1_showTop 22 = .ok (.invokevirtual 36, 3) := by decide +kernel
theorem dX1_showTop_25 : decode cX1_showTop 25 = .ok (.ifCond .eq 16, 3) := by decide +kernel
theorem dX1_showTop_28 : decode cX1_showTop 28 = .ok (.aload_n 1, 1) := by decide +kernel
theorem dX1_showTop_29 : decode cX1_showTop 29 = .ok (.iload_n 3, 1) := by decide +kernel
theorem dX1_showTop_30 : decode cX1_showTop 30 = .ok (.aload_n 0, 1) := by decide +kernel
theorem dX1_showTop_31 : decode cX1_showTop 31 = .ok (.getfield 26, 3) := by decide +kernel
theorem dX1_showTop_34 : decode cX1_showTop 34 = .ok (.iload_n 2, 1) := by decide +kernel
theorem dX1_showTop_35 : decode cX1_showTop 35 = .ok (.iload_n 3, 1) := by decide +kernel
theorem dX1_showTop_36 : decode cX1_showTop 36 = .ok (.iadd, 1) := by decide +kernel
theorem dX1_showTop_37 : decode cX1_showTop 37 = .ok (.iaload, 1) := by decide +kernel
theorem dX1_showTop_38 : decode cX1_showTop 38 = .ok (.invokevirtual 44, 3) := by decide +kernel
theorem dX1_showTop_41 : decode cX1_showTop 41 = .ok (.iinc 3 1, 3) := by decide +kernel
theorem dX1_showTop_44 : decode cX1_showTop 44 = .ok (.goto (-33), 3) := by decide +kernel
theorem dX1_showTop_47 : decode cX1_showTop 47 = .ok (.return_, 1) := by decide +kernel
theorem dX1_dropTop_0 : decode cX1_dropTop 0 = .ok (.aload_n 0, 1) := by decide +kernel
theorem dX1_dropTop_1 : decode cX1_dropTop 1 = .ok (.aload_n 0, 1) := by decide +kernel
theorem dX1_dropTop_2 : decode cX1_dropTop 2 = .ok (.getfield 33, 3) := by decide +kernel
theorem dX1_dropTop_5 : decode cX1_dropTop 5 = .ok (.ifCond .le 12, 3) := by decide +kernel
theorem dX1_dropTop_8 : decode cX1_dropTop 8 = .ok (.aload_n 0, 1) := by decide +kernel
theorem dX1_dropTop_9 : decode cX1_dropTop 9 = .ok (.getfield 33, 3) := by decide +kernel
theorem dX1_dropTop_12 : decode cX1_dropTop 12 = .ok (.iconst 1, 1) := by decide +kernel
theorem dX1_dropTop_13 : decode cX1_dropTop 13 = .ok (.isub, 1) := by decide +kernel
theorem dX1_dropTop_14 : decode cX1_dropTop 14 = .ok (.goto 9, 3) := by decide +kernel
theorem dX1_dropTop_17 : decode cX1_dropTop 17 = .ok (.aload_n 0, 1) := by decide +kernel
theorem dX1_dropTop_18 : decode cX1_dropTop 18 = .ok (.getfield 18, 3) := by decide +kernel
theorem dX1_dropTop_21 : decode cX1_dropTop 21 = .ok (.iconst 1, 1) := by decide +kernel
theorem dX1_dropTop_22 : decode cX1_dropTop 22 = .ok (.isub, 1) := by decide +kernel
theorem dX1_dropTop_23 : decode cX1_dropTop 23 = .ok (.putfield 33, 3) := by decide +kernel
theorem dX1_dropTop_26 : decode cX1_dropTop 26 = .ok (.aload_n 0, 1) := by decide +kernel
theorem dX1_dropTop_27 : decode cX1_dropTop 27 = .ok (.iconst 0, 1) := by decide +kernel
theorem dX1_dropTop_28 : decode cX1_dropTop 28 = .ok (.aload_n 0, 1) := by decide +kernel
theorem dX1_dropTop_29 : decode cX1_dropTop 29 = .ok (.getfield 30, 3) := by decide +kernel
theorem dX1_dropTop_32 : decode cX1_dropTop 32 = .ok (.iconst 1, 1) := by decide +kernel
theorem dX1_dropTop_33 : decode cX1_dropTop 33 = .ok (.isub, 1) := by decide +kernel
theorem dX1_dropTop_34 : decode cX1_dropTop 34 = .ok (.invokestatic 15, 3) := by decide +kernel
theorem dX1_dropTop_37 : decode cX1_dropTop 37 = .ok (.putfield 30, 3) := by decide +kernel
theorem dX1_dropTop_40 : decode cX1_dropTop 40 = .ok (.return_, 1) := by decide +kernel
theorem dX1_isInside_0 : decode cX1_isInside 0 = .ok (.iload_n 1, 1) := by decide +kernel
theorem dX1_isInside_1 : decode cX1_isInside 1 = .ok (.ifCond .lt 16, 3) := by decide +kernel
theorem dX1_isInside_4 : decode cX1_isInside 4 = .ok (.iload_n 1, 1) := by decide +kernel
theorem dX1_isInside_5 : decode cX1_isInside 5 = .ok (.aload_n 0, 1) := by decide +kernel
theorem dX1_isInside_6 : decode cX1_isInside 6 = .ok (.getfield 26, 3) := by decide +kernel
theorem dX1_isInside_9 : decode cX1_isInside 9 = .ok (.arraylength, 1) := by decide +kernel
theorem dX1_isInside_10 : decode cX1_isInside 10 = .ok (.if_icmp .ge 7, 3) := by decide +kernel
theorem dX1_isInside_13 : decode cX1_isInside 13 = .ok (.iconst 1, 1) := by decide +kernel
theorem dX1_isInside_14 : decode cX1_isInside 14 = .ok (.goto 4, 3) := by decide +kernel
theorem dX1_isInside_17 : decode cX1_isInside 17 = .ok (.iconst 0, 1) := by decide +kernel
theorem dX1_isInside_18 : decode cX1_isInside 18 = .ok (.ireturn, 1) := by decide +kernel
theorem dX2_init_0 : decode cX2_init 0 = .ok (.aload_n 0, 1) := by decide +kernel
theorem dX2_init_1 : decode cX2_init 1 = .ok (.invokespecial 3, 3) := by decide +kernel
theorem dX2_init_4 : decode cX2_init 4 = .ok (.aload_n 0, 1) := by decide +kernel
theorem dX2_init_5 : decode cX2_init 5 = .ok (.bipush 60, 2) := by decide +kernel
theorem dX2_init_7 : decode cX2_init 7 = .ok (.newarray .char, 2) := by decide +kernel
theorem dX2_init_9 : decode cX2_init 9 = .ok (.putfield 9, 3) := by decide +kernel
theorem dX2_init_12 : decode cX2_init 12 = .ok (.return_, 1) := by decide +kernel
theorem dX2_length_0 : decode cX2_length 0 = .ok (.aload_n 0, 1) := by decide +kernel
theorem dX2_length_1 : decode cX2_length 1 = .ok (.getfield 15, 3) := by decide +kernel
theorem dX2_length_4 : decode cX2_length 4 = .ok (.ireturn, 1) := by decide +kernel
theorem dX2_push_0 : decode cX2_push 0 = .ok (.aload_n 0, 1) := by decide +kernel
theorem dX2_push_1 : decode cX2_push 1 = .ok (.getfield 15, 3) := by decide +kernel
theorem dX2_push_4 : decode cX2_push 4 = .ok (.ifCond .lt 35, 3) := by decide +kernel
theorem dX2_push_7 : decode cX2_push 7 = .ok (.aload_n 0, 1) := by decide +kernel
theorem dX2_push_8 : decode cX2_push 8 = .ok (.getfield 15, 3) := by decide +kernel
theorem dX2_push_11 : decode cX2_push 11 = .ok (.aload_n 0, 1) := by decide +kernel
theorem dX2_push_12 : decode cX2_push 12 = .ok (.getfield 9, 3) := by decide +kernel
theorem dX2_push_15 : decode cX2_push 15 = .ok (.arraylength, 1) := by decide +kernel
theorem dX2_push_16 : decode cX2_push 16 = .ok (.if_icmp .ge 23, 3) := by decide +kernel
theorem dX2_push_19 : decode cX2_push 19 = .ok (.aload_n 0, 1) := by decide +kernel
theorem dX2_push_20 : decode cX2_push 20 = .ok (.getfield 9, 3) := by decide +kernel
theorem dX2_push_23 : decode cX2_push 23 = .ok (.aload_n 0, 1) := by decide +kernel
theorem dX2_push_24 : decode cX2_push 24 = .ok (.getfield 15, 3) := by decide +kernel
theorem dX2_push_27 : decode cX2_push 27 = .ok (.iload_n 1, 1) := by decide +kernel
theorem dX2_push_28 : decode cX2_push 28 = .ok (.castore, 1) := by decide +kernel
theorem dX2_push_29 : decode cX2_push 29 = .ok (.aload_n 0, 1) := by decide +kernel
theorem dX2_push_30 : decode cX2_push 30 = .ok (.dup, 1) := by decide +kernel
theorem dX2_push_31 : decode cX2_push 31 = .ok (.getfield 15, 3) := by decide +kernel
theorem dX2_push_34 : decode cX2_push 34 = .ok (.iconst 1, 1) := by decide +kernel
theorem dX2_push_35 : decode cX2_push 35 = .ok (.iadd, 1) := by decide +kernel
theorem dX2_push_36 : decode cX2_push 36 = .ok (.putfield 15, 3) := by decide +kernel
theorem dX2_push_39 : decode cX2_push 39 = .ok (.return_, 1) := by decide +kernel
theorem dX2_wipe_0 : decode cX2_wipe 0 = .ok (.aload_n 0, 1) := by decide +kernel
theorem dX2_wipe_1 : decode cX2_wipe 1 = .ok (.iconst 0, 1) := by decide +kernel
theorem dX2_wipe_2 : decode cX2_wipe 2 = .ok (.putfield 15, 3) := by decide +kernel
theorem dX2_wipe_5 : decode cX2_wipe 5 = .ok (.return_, 1) := by decide +kernel
theorem dX2_signAt_0 : decode cX2_signAt 0 = .ok (.iload_n 1, 1) := by decide +kernel
theorem dX2_signAt_1 : decode cX2_signAt 1 = .ok (.ifCond .lt 29, 3) := by decide +kernel
theorem dX2_signAt_4 : decode cX2_signAt 4 = .ok (.iload_n 1, 1) := by decide +kernel
theorem dX2_signAt_5 : decode cX2_signAt 5 = .ok (.aload_n 0, 1) := by decide +kernel
theorem dX2_signAt_6 : decode cX2_signAt 6 = .ok (.getfield 15, 3) := by decide +kernel
theorem dX2_signAt_9 : decode cX2_signAt 9 = .ok (.if_icmp .ge 21, 3) := by decide +kernel
theorem dX2_signAt_12 : decode cX2_signAt 12 = .ok (.iload_n 1, 1) := by decide +kernel
theorem dX2_signAt_13 : decode cX2_signAt 13 = .ok (.aload_n 0, 1) := by decide +kernel
theorem dX2_signAt_14 : decode cX2_signAt 14 = .ok (.getfield 9, 3) := by decide +kernel
theorem dX2_signAt_17 : decode cX2_signAt 17 = .ok (.arraylength, 1) := by decide +kernel
theorem dX2_signAt_18 : decode cX2_signAt 18 = .ok (.if_icmp .ge 12, 3) := by decide +kernel
theorem dX2_signAt_21 : decode cX2_signAt 21 = .ok (.aload_n 0, 1) := by decide +kernel
theorem dX2_signAt_22 : decode cX2_signAt 22 = .ok (.getfield 9, 3) := by decide +kernel
theorem dX2_signAt_25 : decode cX2_signAt 25 = .ok (.iload_n 1, 1) := by decide +kernel
theorem dX2_signAt_26 : decode cX2_signAt 26 = .ok (.caload, 1) := by decide +kernel
theorem dX2_signAt_27 : decode cX2_signAt 27 = .ok (.goto 5, 3) := by decide +kernel
theorem dX2_signAt_30 : decode cX2_signAt 30 = .ok (.bipush 32, 2) := by decide +kernel
theorem dX2_signAt_32 : decode cX2_signAt 32 = .ok (.ireturn, 1) := by decide +kernel
set_option maxRecDepth 20000 in
theorem ggX2_rightSigns_X2_signAt : GoodIn wsX2_rightSigns wsX2_signAt := goodIn_r _ [6, 1, 7, 23, 24] (by decide +kernel) (by decide +kernel)
set_option maxRecDepth 20000 in
theorem gX2_rightSigns_X2_signAt : GoodIn wsX2_rightSigns (wsV RX2 19 RX2 yX2_signAt wsX2_signAt) := goodIn_app (goodIn_of _ (by decide +kernel)) ggX2_rightSigns_X2_signAt
set_option maxRecDepth 20000 in
theorem ggX2_rightSigns_X2_readNext : GoodIn wsX2_rightSigns wsX2_readNext := goodIn_r _ [10, 11, 12, 5, 13, 14, 15, 16, 17, 18, 19, 20, 21, 22] (by decide +kernel) (by decide +kernel)
set_option maxRecDepth 20000 in
theorem gX2_rightSigns_X2_readNext : GoodIn wsX2_rightSigns (va_wsS RX2 23 yX2_readNext wsX2_readNext) := goodIn_app (goodIn_of _ (by decide +kernel)) ggX2_rightSigns_X2_readNext
theorem dX2_rightSigns_0 : decode cX2_rightSigns 0 = .ok (.iconst 0, 1) := by decide +kernel
theorem dX2_rightSigns_1 : decode cX2_rightSigns 1 = .ok (.istore_n 1, 1) := by decide +kernel
theorem dX2_rightSigns_2 : decode cX2_rightSigns 2 = .ok (.iconst 0, 1) := by decide +kernel
theorem dX2_rightSigns_3 : decode cX2_rightSigns 3 = .ok (.istore_n 2, 1) := by decide +kernel
theorem dX2_rightSigns_4 : decode cX2_rightSigns 4 = .ok (.iload_n 2, 1) := by decide +kernel
theorem dX2_rightSigns_5 : decode cX2_rightSigns 5 = .ok (.aload_n 0, 1) := by decide +kernel
theorem dX2_rightSigns_6 : decode cX2_rightSigns 6 = .ok (.getfield 15, 3) := by decide +kernel
theorem dX2_rightSigns_9 : decode cX2_rightSigns 9 = .ok (.if_icmp .ge 27, 3) := by decide +kernel
theorem dX2_rightSigns_12 : decode cX2_rightSigns 12 = .ok (.iload_n 1, 1) := by decide +kernel
theorem dX2_rightSigns_13 : decode cX2_rightSigns 13 = .ok (.aload_n 0, 1) := by decide +kernel
theorem dX2_rightSigns_14 : decode cX2_rightSigns 14 = .ok (.iload_n 2, 1) := by decide +kernel
theorem dX2_rightSigns_15 : decode cX2_rightSigns 15 = .ok (.invokevirtual 19, 3) := by decide +kernel
theorem dX2_rightSigns_18 : decode cX2_rightSigns 18 = .ok (.invokestatic 23, 3) := by decide +kernel
theorem dX2_rightSigns_21 : decode cX2_rightSigns 21 = .ok (.istore_n 1, 1) := by decide +kernel
theorem dX2_rightSigns_22 : decode cX2_rightSigns 22 = .ok (.iload_n 1, 1) := by decide +kernel
theorem dX2_rightSigns_23 : decode cX2_rightSigns 23 = .ok (.bipush 11, 2) := by decide +kernel
theorem dX2_rightSigns_25 : decode cX2_rightSigns 25 = .ok (.if_icmp .ne 5, 3) := by decide +kernel
theorem dX2_rightSigns_28 : decode cX2_rightSigns 28 = .ok (.iload_n 2, 1) := by decide +kernel
theorem dX2_rightSigns_29 : decode cX2_rightSigns 29 = .ok (.ireturn, 1) := by decide +kernel
theorem dX2_rightSigns_30 : decode cX2_rightSigns 30 = .ok (.iinc 2 1, 3) := by decide +kernel
theorem dX2_rightSigns_33 : decode cX2_rightSigns 33 = .ok (.goto (-29), 3) := by decide +kernel
theorem dX2_rightSigns_36 : decode cX2_rightSigns 36 = .ok (.aload_n 0, 1) := by decide +kernel
theorem dX2_rightSigns_37 : decode cX2_rightSigns 37 = .ok (.getfield 15, 3) := by decide +kernel
theorem dX2_rightSigns_40 : decode cX2_rightSigns 40 = .ok (.ireturn, 1) := by decide +kernel
set_option maxRecDepth 20000 in
theorem ggX2_isComplete_X2_signAt : GoodIn wsX2_isComplete wsX2_signAt := goodIn_r _ [6, 1, 7, 23, 24] (by decide +kernel) (by decide +kernel)
set_option maxRecDepth 20000 in
theorem gX2_isComplete_X2_signAt : GoodIn wsX2_isComplete (wsV RX2 19 RX2 yX2_signAt wsX2_signAt) := goodIn_app (goodIn_of _ (by decide +kernel)) ggX2_isComplete_X2_signAt
set_option maxRecDepth 20000 in
theorem ggX2_isComplete_X2_readNext : GoodIn wsX2_isComplete wsX2_readNext := goodIn_r _ [10, 11, 12, 5, 13, 14, 15, 16, 17, 18, 19, 20, 21, 22] (by decide +kernel) (by decide +kernel)
set_option maxRecDepth 20000 in
theorem gX2_isComplete_X2_readNext : GoodIn wsX2_isComplete (va_wsS RX2 23 yX2_readNext wsX2_readNext) := goodIn_app (goodIn_of _ (by decide +kernel)) ggX2_isComplete_X2_readNext
set_option maxRecDepth 20000 in
theorem ggX2_isComplete_X2_endsPart : GoodIn wsX2_isComplete wsX2_endsPart := goodIn_r _ [13] (by decide +kernel) (by decide +kernel)
set_option maxRecDepth 20000 in
theorem gX2_isComplete_X2_endsPart : GoodIn wsX2_isComplete (va_wsS RX2 27 yX2_endsPart wsX2_endsPart) := goodIn_app (goodIn_of _ (by decide +kernel)) ggX2_isComplete_X2_endsPart
theorem dX2_isComplete_0 : decode cX2_isComplete 0 = .ok (.iconst 0, 1) := by decide +kernel
theorem dX2_isComplete_1 : decode cX2_isComplete 1 = .ok (.istore_n 1, 1) := by decide +kernel
theorem dX2_isComplete_2 : decode cX2_isComplete 2 = .ok (.iconst 0, 1) := by decide +kernel
theorem dX2_isComplete_3 : decode cX2_isComplete 3 = .ok (.istore_n 2, 1) := by decide +kernel
theorem dX2_isComplete_4 : decode cX2_isComplete 4 = .ok (.iload_n 2, 1) := by decide +kernel
theorem dX2_isComplete_5 : decode cX2_isComplete 5 = .ok (.aload_n 0, 1) := by decide +kernel
theorem dX2_isComplete_6 : decode cX2_isComplete 6 = .ok (.getfield 15, 3) := by decide +kernel
theorem dX2_isComplete_9 : decode cX2_isComplete 9 = .ok (.if_icmp .ge 19, 3) := by decide +kernel
theorem dX2_isComplete_12 : decode cX2_isComplete 12 = .ok (.iload_n 1, 1) := by decide +kernel
theorem dX2_isComplete_13 : decode cX2_isComplete 13 = .ok (.aload_n 0, 1) := by decide +kernel
theorem dX2_isComplete_14 : decode cX2_isComplete 14 = .ok (.iload_n 2, 1) := by decide +kernel
theorem dX2_isComplete_15 : decode cX2_isComplete 15 = .ok (.invokevirtual 19, 3) := by decide +kernel
theorem dX2_isComplete_18 : decode cX2_isComplete 18 = .ok (.invokestatic 23, 3) := by decide +kernel
theorem dX2_isComplete_21 : decode cX2_isComplete 21 = .ok (.istore_n 1, 1) := by decide +kernel
theorem dX2_isComplete_22 : decode cX2_isComplete 22 = .ok (.iinc 2 1, 3) := by decide +kernel
theorem dX2_isComplete_25 : decode cX2_isComplete 25 = .ok (.goto (-21), 3) := by decide +kernel
theorem dX2_isComplete_28 : decode cX2_isComplete 28 = .ok (.iload_n 1, 1) := by decide +kernel
theorem dX2_isComplete_29 : decode cX2_isComplete 29 = .ok (.invokestatic 27, 3) := by decide +kernel
theorem dX2_isComplete_32 : decode cX2_isComplete 32 = .ok (.ireturn, 1) := by decide +kernel
set_option maxRecDepth 20000 in
theorem ggX2_isPartBegin_X2_signAt : GoodIn wsX2_isPartBegin wsX2_signAt := goodIn_r _ [5, 6, 7, 8, 9] (by decide +kernel) (by decide +kernel)
set_option maxRecDepth 20000 in
theorem gX2_isPartBegin_X2_signAt : GoodIn wsX2_isPartBegin (wsV RX2 19 RX2 yX2_signAt wsX2_signAt) := goodIn_app (goodIn_of _ (by decide +kernel)) ggX2_isPartBegin_X2_signAt
theorem dX2_isPartBegin_0 : decode cX2_isPartBegin 0 = .ok (.iload_n 1, 1) := by decide +kernel
theorem dX2_isPartBegin_1 : decode cX2_isPartBegin 1 = .ok (.ifCond .eq 15, 3) := by decide +kernel
theorem dX2_isPartBegin_4 : decode cX2_isPartBegin 4 = .ok (.aload_n 0, 1) := by decide +kernel
theorem dX2_isPartBegin_5 : decode cX2_isPartBegin 5 = .ok (.iload_n 1, 1) := by decide +kernel
theorem dX2_isPartBegin_6 : decode cX2_isPartBegin 6 = .ok (.iconst 1, 1) := by decide +kernel
theorem dX2_isPartBegin_7 : decode cX2_isPartBegin 7 = .ok (.isub, 1) := by decide +kernel
theorem dX2_isPartBegin_8 : decode cX2_isPartBegin 8 = .ok (.invokevirtual 19, 3) := by decide +kernel
theorem dX2_isPartBegin_11 : decode cX2_isPartBegin 11 = .ok (.bipush 59, 2) := by decide +kernel
theorem dX2_isPartBegin_13 : decode cX2_isPartBegin 13 = .ok (.if_icmp .ne 7, 3) := by decide +kernel
theorem dX2_isPartBegin_16 : decode cX2_isPartBegin 16 = .ok (.iconst 1, 1) := by decide +kernel
theorem dX2_isPartBegin_17 : decode cX2_isPartBegin 17 = .ok (.goto 4, 3) := by decide +kernel
theorem dX2_isPartBegin_20 : decode cX2_isPartBegin 20 = .ok (.iconst 0, 1) := by decide +kernel
theorem dX2_isPartBegin_21 : decode cX2_isPartBegin 21 = .ok (.ireturn, 1) := by decide +kernel
set_option maxRecDepth 20000 in
theorem ggX2_numberAt_X2_signAt : GoodIn wsX2_numberAt wsX2_signAt := goodIn_r _ [5, 6, 7, 11, 12] (by decide +kernel) (by decide +kernel)
set_option maxRecDepth 20000 in
theorem gX2_numberAt_X2_signAt : GoodIn wsX2_numberAt (wsV RX2 19 RX2 yX2_signAt wsX2_signAt) := goodIn_app (goodIn_of _ (by decide +kernel)) ggX2_numberAt_X2_signAt
set_option maxRecDepth 20000 in
theorem ggX2_numberAt_X2_isDigit : GoodIn wsX2_numberAt wsX2_isDigit := goodIn_r _ [10] (by decide +kernel) (by decide +kernel)
set_option maxRecDepth 20000 in
theorem gX2_numberAt_X2_isDigit : GoodIn wsX2_numberAt (va_wsS RX2 31 yX2_isDigit wsX2_isDigit) := goodIn_app (goodIn_of _ (by decide +kernel)) ggX2_numberAt_X2_isDigit
theorem dX2_numberAt_0 : decode cX2_numberAt 0 = .ok (.aload_n 0, 1) := by decide +kernel
theorem dX2_numberAt_1 : decode cX2_numberAt 1 = .ok (.iload_n 1, 1) := by decide +kernel
theorem dX2_numberAt_2 : decode cX2_numberAt 2 = .ok (.invokevirtual 19, 3) := by decide +kernel
theorem dX2_numberAt_5 : decode cX2_numberAt 5 = .ok (.bipush 9, 2) := by decide +kernel
theorem dX2_numberAt_7 : decode cX2_numberAt 7 = .ok (.invokestatic 31, 3) := by decide +kernel
theorem dX2_numberAt_10 : decode cX2_numberAt 10 = .ok (.ifCond .ne 5, 3) := by decide +kernel
theorem dX2_numberAt_13 : decode cX2_numberAt 13 = .ok (.iconst 0, 1) := by decide +kernel
theorem dX2_numberAt_14 : decode cX2_numberAt 14 = .ok (.ireturn, 1) := by decide +kernel
theorem dX2_numberAt_15 : decode cX2_numberAt 15 = .ok (.aload_n 0, 1) := by decide +kernel
theorem dX2_numberAt_16 : decode cX2_numberAt 16 = .ok (.iload_n 1, 1) := by decide +kernel
theorem dX2_numberAt_17 : decode cX2_numberAt 17 = .ok (.invokevirtual 19, 3) := by decide +kernel
theorem dX2_numberAt_20 : decode cX2_numberAt 20 = .ok (.bipush 48, 2) := by decide +kernel
theorem dX2_numberAt_22 : decode cX2_numberAt 22 = .ok (.isub, 1) := by decide +kernel
theorem dX2_numberAt_23 : decode cX2_numberAt 23 = .ok (.istore_n 2, 1) := by decide +kernel
theorem dX2_numberAt_24 : decode cX2_numberAt 24 = .ok (.aload_n 0, 1) := by decide +kernel
theorem dX2_numberAt_25 : decode cX2_numberAt 25 = .ok (.iload_n 1, 1) := by decide +kernel
theorem dX2_numberAt_26 : decode cX2_numberAt 26 = .ok (.iconst 1, 1) := by decide +kernel
theorem dX2_numberAt_27 : decode cX2_numberAt 27 = .ok (.iadd, 1) := by decide +kernel
theorem dX2_numberAt_28 : decode cX2_numberAt 28 = .ok (.invokevirtual 19, 3) := by decide +kernel
theorem dX2_numberAt_31 : decode cX2_numberAt 31 = .ok (.bipush 9, 2) := by decide +kernel
theorem dX2_numberAt_33 : decode cX2_numberAt 33 = .ok (.invokestatic 31, 3) := by decide +kernel
theorem dX2_numberAt_36 : decode cX2_numberAt 36 = .ok (.ifCond .eq 21, 3) := by decide +kernel
theorem dX2_numberAt_39 : decode cX2_numberAt 39 = .ok (.bipush 10, 2) := by decide +kernel
theorem dX2_numberAt_41 : decode cX2_numberAt 41 = .ok (.iload_n 2, 1) := by decide +kernel
theorem dX2_numberAt_42 : decode cX2_numberAt 42 = .ok (.imul, 1) := by decide +kernel
theorem dX2_numberAt_43 : decode cX2_numberAt 43 = .ok (.aload_n 0, 1) := by decide +kernel
theorem dX2_numberAt_44 : decode cX2_numberAt 44 = .ok (.iload_n 1, 1) := by decide +kernel
theorem dX2_numberAt_45 : decode cX2_numberAt 45 = .ok (.iconst 1, 1) := by decide +kernel
theorem dX2_numberAt_46 : decode cX2_numberAt 46 = .ok (.iadd, 1) := by decide +kernel
theorem dX2_numberAt_47 : decode cX2_numberAt 47 = .ok (.invokevirtual 19, 3) := by decide +kernel
theorem dX2_numberAt_50 : decode cX2_numberAt 50 = .ok (.iadd, 1) := by decide +kernel
theorem dX2_numberAt_51 : decode cX2_numberAt 51 = .ok (.bipush 48, 2) := by decide +kernel
theorem dX2_numberAt_53 : decode cX2_numberAt 53 = .ok (.isub, 1) := by decide +kernel
theorem dX2_numberAt_54 : decode cX2_numberAt 54 = .ok (.goto 4, 3) := by decide +kernel
theorem dX2_numberAt_57 : decode cX2_numberAt 57 = .ok (.iload_n 2, 1) := by decide +kernel
theorem dX2_numberAt_58 : decode cX2_numberAt 58 = .ok (.ireturn, 1) := by decide +kernel
set_option maxRecDepth 20000 in
theorem ggX2_readNext_X2_endsPart : GoodIn wsX2_readNext wsX2_endsPart := goodIn_r _ [4] (by decide +kernel) (by decide +kernel)
set_option maxRecDepth 20000 in
theorem gX2_readNext_X2_endsPart : GoodIn wsX2_readNext (va_wsS RX2 27 yX2_endsPart wsX2_endsPart) := goodIn_app (goodIn_of _ (by decide +kernel)) ggX2_readNext_X2_endsPart
set_option maxRecDepth 20000 in
theorem ggX2_readNext_X2_beginPart : GoodIn wsX2_readNext wsX2_beginPart := goodIn_r _ [7] (by decide +kernel) (by decide +kernel)
set_option maxRecDepth 20000 in
theorem gX2_readNext_X2_beginPart : GoodIn wsX2_readNext (va_wsS RX2 35 yX2_beginPart wsX2_beginPart) := goodIn_app (goodIn_of _ (by decide +kernel)) ggX2_readNext_X2_beginPart
set_option maxRecDepth 20000 in
theorem ggX2_readNext_X2_isDigit : GoodIn wsX2_readNext wsX2_isDigit := goodIn_r _ [10] (by decide +kernel) (by decide +kernel)
set_option maxRecDepth 20000 in
theorem gX2_readNext_X2_isDigit : GoodIn wsX2_readNext (va_wsS RX2 31 yX2_isDigit wsX2_isDigit) := goodIn_app (goodIn_of _ (by decide +kernel)) ggX2_readNext_X2_isDigit
set_option maxRecDepth 20000 in
theorem ggX2_readNext_X2_beginDays : GoodIn wsX2_readNext wsX2_beginDays := goodIn_r _ [13, 8, 9, 3, 10] (by decide +kernel) (by decide +kernel)
set_option maxRecDepth 20000 in
theorem gX2_readNext_X2_beginDays : GoodIn wsX2_readNext (va_wsS RX2 39 yX2_beginDays wsX2_beginDays) := goodIn_app (goodIn_of _ (by decide +kernel)) ggX2_readNext_X2_beginDays
theorem dX2_readNext_0 : decode cX2_readNext 0 = .ok (.iload_n 0, 1) := by decide +kernel
theorem dX2_readNext_1 : decode cX2_readNext 1 = .ok (.invokestatic 27, 3) := by decide +kernel
theorem dX2_readNext_4 : decode cX2_readNext 4 = .ok (.ifCond .eq 11, 3) := by decide +kernel
theorem dX2_readNext_7 : decode cX2_readNext 7 = .ok (.iload_n 1, 1) := by decide +kernel
theorem dX2_readNext_8 : decode cX2_readNext 8 = .ok (.bipush 59, 2) := by decide +kernel
theorem dX2_readNext_10 : decode cX2_readNext 10 = .ok (.if_icmp .ne 5, 3) := by decide +kernel
theorem dX2_readNext_13 : decode cX2_readNext 13 = .ok (.iconst 0, 1) := by decide +kernel
theorem dX2_readNext_14 : decode cX2_readNext 14 = .ok (.ireturn, 1) := by decide +kernel
theorem dX2_readNext_15 : decode cX2_readNext 15 = .ok (.iload_n 0, 1) := by decide +kernel
theorem dX2_readNext_16 : decode cX2_readNext 16 = .ok (.tableswitch 185 0 9 #[56, 61, 76, 89, 104, 117, 133, 149, 154, 171], 56) := by decide +kernel
theorem dX2_readNext_72 : decode cX2_readNext 72 = .ok (.iload_n 1, 1) := by decide +kernel
theorem dX2_readNext_73 : decode cX2_readNext 73 = .ok (.invokestatic 35, 3) := by decide +kernel
theorem dX2_readNext_76 : decode cX2_readNext 76 = .ok (.ireturn, 1) := by decide +kernel
theorem dX2_readNext_77 : decode cX2_readNext 77 = .ok (.iload_n 1, 1) := by decide +kernel
theorem dX2_readNext_78 : decode cX2_readNext 78 = .ok (.iconst 5, 1) := by decide +kernel
theorem dX2_readNext_79 : decode cX2_readNext 79 = .ok (.invokestatic 31, 3) := by decide +kernel
theorem dX2_readNext_82 : decode cX2_readNext 82 = .ok (.ifCond .eq 7, 3) := by decide +kernel
theorem dX2_readNext_85 : decode cX2_readNext 85 = .ok (.iconst 2, 1) := by decide +kernel
theorem dX2_readNext_86 : decode cX2_readNext 86 = .ok (.goto 5, 3) := by decide +kernel
theorem dX2_readNext_89 : decode cX2_readNext 89 = .ok (.bipush 11, 2) := by decide +kernel
theorem dX2_readNext_91 : decode cX2_readNext 91 = .ok (.ireturn, 1) := by decide +kernel
theorem dX2_readNext_92 : decode cX2_readNext 92 = .ok (.iload_n 1, 1) := by decide +kernel
theorem dX2_readNext_93 : decode cX2_readNext 93 = .ok (.bipush 62, 2) := by decide +kernel
theorem dX2_readNext_95 : decode cX2_readNext 95 = .ok (.if_icmp .ne 7, 3) := by decide +kernel
theorem dX2_readNext_98 : decode cX2_readNext 98 = .ok (.iconst 3, 1) := by decide +kernel
theorem dX2_readNext_99 : decode cX2_readNext 99 = .ok (.goto 5, 3) := by decide +kernel
theorem dX2_readNext_102 : decode cX2_readNext 102 = .ok (.bipush 11, 2) := by decide +kernel
theorem dX2_readNext_104 : decode cX2_readNext 104 = .ok (.ireturn, 1) := by decide +kernel
theorem dX2_readNext_105 : decode cX2_readNext 105 = .ok (.iload_n 1, 1) := by decide +kernel
theorem dX2_readNext_106 : decode cX2_readNext 106 = .ok (.iconst 4, 1) := by decide +kernel
theorem dX2_readNext_107 : decode cX2_readNext 107 = .ok (.invokestatic 31, 3) := by decide +kernel
theorem dX2_readNext_110 : decode cX2_readNext 110 = .ok (.ifCond .eq 7, 3) := by decide +kernel
theorem dX2_readNext_113 : decode cX2_readNext 113 = .ok (.iconst 4, 1) := by decide +kernel
theorem dX2_readNext_114 : decode cX2_readNext 114 = .ok (.goto 5, 3) := by decide +kernel
theorem dX2_readNext_117 : decode cX2_readNext 117 = .ok (.bipush 11, 2) := by decide +kernel
theorem dX2_readNext_119 : decode cX2_readNext 119 = .ok (.ireturn, 1) := by decide +kernel
theorem dX2_readNext_120 : decode cX2_readNext 120 = .ok (.iload_n 1, 1) := by decide +kernel
theorem dX2_readNext_121 : decode cX2_readNext 121 = .ok (.bipush 47, 2) := by decide +kernel
theorem dX2_readNext_123 : decode cX2_readNext 123 = .ok (.if_icmp .ne 7, 3) := by decide +kernel
theorem dX2_readNext_126 : decode cX2_readNext 126 = .ok (.iconst 5, 1) := by decide +kernel
theorem dX2_readNext_127 : decode cX2_readNext 127 = .ok (.goto 5, 3) := by decide +kernel
theorem dX2_readNext_130 : decode cX2_readNext 130 = .ok (.bipush 11, 2) := by decide +kernel
theorem dX2_readNext_132 : decode cX2_readNext 132 = .ok (.ireturn, 1) := by decide +kernel
theorem dX2_readNext_133 : decode cX2_readNext 133 = .ok (.iload_n 1, 1) := by decide +kernel
theorem dX2_readNext_134 : decode cX2_readNext 134 = .ok (.iconst 3, 1) := by decide +kernel
theorem dX2_readNext_135 : decode cX2_readNext 135 = .ok (.invokestatic 31, 3) := by decide +kernel
theorem dX2_readNext_138 : decode cX2_readNext 138 = .ok (.ifCond .eq 8, 3) := by decide +kernel
theorem dX2_readNext_141 : decode cX2_readNext 141 = .ok (.bipush 10, 2) := by decide +kernel
theorem dX2_readNext_143 : decode cX2_readNext 143 = .ok (.goto 5, 3) := by decide +kernel
theorem dX2_readNext_146 : decode cX2_readNext 146 = .ok (.bipush 11, 2) := by decide +kernel
theorem dX2_readNext_148 : decode cX2_readNext 148 = .ok (.ireturn, 1) := by decide +kernel
theorem dX2_readNext_149 : decode cX2_readNext 149 = .ok (.iload_n 1, 1) := by decide +kernel
theorem dX2_readNext_150 : decode cX2_readNext 150 = .ok (.iconst 5, 1) := by decide +kernel
theorem dX2_readNext_151 : decode cX2_readNext 151 = .ok (.invokestatic 31, 3) := by decide +kernel
theorem dX2_readNext_154 : decode cX2_readNext 154 = .ok (.ifCond .eq 8, 3) := by decide +kernel
theorem dX2_readNext_157 : decode cX2_readNext 157 = .ok (.bipush 10, 2) := by decide +kernel
theorem dX2_readNext_159 : decode cX2_readNext 159 = .ok (.goto 5, 3) := by decide +kernel
theorem dX2_readNext_162 : decode cX2_readNext 162 = .ok (.bipush 11, 2) := by decide +kernel
theorem dX2_readNext_164 : decode cX2_readNext 164 = .ok (.ireturn, 1) := by decide +kernel
theorem dX2_readNext_165 : decode cX2_readNext 165 = .ok (.iload_n 1, 1) := by decide +kernel
theorem dX2_readNext_166 : decode cX2_readNext 166 = .ok (.invokestatic 39, 3) := by decide +kernel
theorem dX2_readNext_169 : decode cX2_readNext 169 = .ok (.ireturn, 1) := by decide +kernel
theorem dX2_readNext_170 : decode cX2_readNext 170 = .ok (.iload_n 1, 1) := by decide +kernel
theorem dX2_readNext_171 : decode cX2_readNext 171 = .ok (.bipush 9, 2) := by decide +kernel
theorem dX2_readNext_173 : decode cX2_readNext 173 = .ok (.invokestatic 31, 3) := by decide +kernel
theorem dX2_readNext_176 : decode cX2_readNext 176 = .ok (.ifCond .eq 8, 3) := by decide +kernel
theorem dX2_readNext_179 : decode cX2_readNext 179 = .ok (.bipush 10, 2) := by decide +kernel
theorem dX2_readNext_181 : decode cX2_readNext 181 = .ok (.goto 5, 3) := by decide +kernel
theorem dX2_readNext_184 : decode cX2_readNext 184 = .ok (.bipush 11, 2) := by decide +kernel
theorem dX2_readNext_186 : decode cX2_readNext 186 = .ok (.ireturn, 1) := by decide +kernel
theorem dX2_readNext_187 : decode cX2_readNext 187 = .ok (.iload_n 1, 1) := by decide +kernel
theorem dX2_readNext_188 : decode cX2_readNext 188 = .ok (.bipush 48, 2) := by decide +kernel
theorem dX2_readNext_190 : decode cX2_readNext 190 = .ok (.if_icmp .ne 8, 3) := by decide +kernel
theorem dX2_readNext_193 : decode cX2_readNext 193 = .ok (.bipush 10, 2) := by decide +kernel
theorem dX2_readNext_195 : decode cX2_readNext 195 = .ok (.goto 5, 3) := by decide +kernel
theorem dX2_readNext_198 : decode cX2_readNext 198 = .ok (.bipush 11, 2) := by decide +kernel
theorem dX2_readNext_200 : decode cX2_readNext 200 = .ok (.ireturn, 1) := by decide +kernel
theorem dX2_readNext_201 : decode cX2_readNext 201 = .ok (.bipush 11, 2) := by decide +kernel
theorem dX2_readNext_203 : decode cX2_readNext 203 = .ok (.ireturn, 1) := by decide +kernel
theorem dX2_beginPart_0 : decode cX2_beginPart 0 = .ok (.iload_n 0, 1) := by decide +kernel
theorem dX2_beginPart_1 : decode cX2_beginPart 1 = .ok (.lookupswitch 54 #[(42, 51), (43, 48), (99, 43), (114, 45)], 43) := by decide +kernel
theorem dX2_beginPart_44 : decode cX2_beginPart 44 = .ok (.iconst 1, 1) := by decide +kernel
theorem dX2_beginPart_45 : decode cX2_beginPart 45 = .ok (.ireturn, 1) := by decide +kernel
theorem dX2_beginPart_46 : decode cX2_beginPart 46 = .ok (.bipush 6, 2) := by decide +kernel
theorem dX2_beginPart_48 : decode cX2_beginPart 48 = .ok (.ireturn, 1) := by decide +kernel
theorem dX2_beginPart_49 : decode cX2_beginPart 49 = .ok (.bipush 7, 2) := by decide +kernel
theorem dX2_beginPart_51 : decode cX2_beginPart 51 = .ok (.ireturn, 1) := by decide +kernel
theorem dX2_beginPart_52 : decode cX2_beginPart 52 = .ok (.bipush 10, 2) := by decide +kernel
theorem dX2_beginPart_54 : decode cX2_beginPart 54 = .ok (.ireturn, 1) := by decide +kernel
theorem dX2_beginPart_55 : decode cX2_beginPart 55 = .ok (.bipush 11, 2) := by decide +kernel
theorem dX2_beginPart_57 : decode cX2_beginPart 57 = .ok (.ireturn, 1) := by decide +kernel
set_option maxRecDepth 20000 in
theorem ggX2_beginDays_X2_isDigit : GoodIn wsX2_beginDays wsX2_isDigit := goodIn_r _ [4] (by decide +kernel) (by decide +kernel)
set_option maxRecDepth 20000 in
theorem gX2_beginDays_X2_isDigit : GoodIn wsX2_beginDays (va_wsS RX2 31 yX2_isDigit wsX2_isDigit) := goodIn_app (goodIn_of _ (by decide +kernel)) ggX2_beginDays_X2_isDigit
theorem dX2_beginDays_0 : decode cX2_beginDays 0 = .ok (.iload_n 0, 1) := by decide +kernel
theorem dX2_beginDays_1 : decode cX2_beginDays 1 = .ok (.bipush 48, 2) := by decide +kernel
theorem dX2_beginDays_3 : decode cX2_beginDays 3 = .ok (.if_icmp .eq 12, 3) := by decide +kernel
theorem dX2_beginDays_6 : decode cX2_beginDays 6 = .ok (.iload_n 0, 1) := by decide +kernel
theorem dX2_beginDays_7 : decode cX2_beginDays 7 = .ok (.bipush 9, 2) := by decide +kernel
theorem dX2_beginDays_9 : decode cX2_beginDays 9 = .ok (.invokestatic 31, 3) := by decide +kernel
theorem dX2_beginDays_12 : decode cX2_beginDays 12 = .ok (.ifCond .ne 6, 3) := by decide +kernel
theorem dX2_beginDays_15 : decode cX2_beginDays 15 = .ok (.bipush 11, 2) := by decide +kernel
theorem dX2_beginDays_17 : decode cX2_beginDays 17 = .ok (.ireturn, 1) := by decide +kernel
theorem dX2_beginDays_18 : decode cX2_beginDays 18 = .ok (.iload_n 0, 1) := by decide +kernel
theorem dX2_beginDays_19 : decode cX2_beginDays 19 = .ok (.bipush 54, 2) := by decide +kernel
theorem dX2_beginDays_21 : decode cX2_beginDays 21 = .ok (.if_icmp .ne 6, 3) := by decide +kernel
theorem dX2_beginDays_24 : decode cX2_beginDays 24 = .ok (.bipush 9, 2) := by decide +kernel
theorem dX2_beginDays_26 : decode cX2_beginDays 26 = .ok (.ireturn, 1) := by decide +kernel
theorem dX2_beginDays_27 : decode cX2_beginDays 27 = .ok (.iload_n 0, 1) := by decide +kernel
theorem dX2_beginDays_28 : decode cX2_beginDays 28 = .ok (.bipush 54, 2) := by decide +kernel
theorem dX2_beginDays_30 : decode cX2_beginDays 30 = .ok (.if_icmp .ge 8, 3) := by decide +kernel
theorem dX2_beginDays_33 : decode cX2_beginDays 33 = .ok (.bipush 8, 2) := by decide +kernel
theorem dX2_beginDays_35 : decode cX2_beginDays 35 = .ok (.goto 5, 3) := by decide +kernel
theorem dX2_beginDays_38 : decode cX2_beginDays 38 = .ok (.bipush 10, 2) := by decide +kernel
theorem dX2_beginDays_40 : decode cX2_beginDays 40 = .ok (.ireturn, 1) := by decide +kernel
theorem dX2_endsPart_0 : decode cX2_endsPart 0 = .ok (.iload_n 0, 1) := by decide +kernel
theorem dX2_endsPart_1 : decode cX2_endsPart 1 = .ok (.bipush 10, 2) := by decide +kernel
theorem dX2_endsPart_3 : decode cX2_endsPart 3 = .ok (.if_icmp .eq 15, 3) := by decide +kernel
theorem dX2_endsPart_6 : decode cX2_endsPart 6 = .ok (.iload_n 0, 1) := by decide +kernel
theorem dX2_endsPart_7 : decode cX2_endsPart 7 = .ok (.bipush 8, 2) := by decide +kernel
theorem dX2_endsPart_9 : decode cX2_endsPart 9 = .ok (.if_icmp .eq 9, 3) := by decide +kernel
theorem dX2_endsPart_12 : decode cX2_endsPart 12 = .ok (.iload_n 0, 1) := by decide +kernel
theorem dX2_endsPart_13 : decode cX2_endsPart 13 = .ok (.bipush 9, 2) := by decide +kernel
theorem dX2_endsPart_15 : decode cX2_endsPart 15 = .ok (.if_icmp .ne 7, 3) := by decide +kernel
theorem dX2_endsPart_18 : decode cX2_endsPart 18 = .ok (.iconst 1, 1) := by decide +kernel
theorem dX2_endsPart_19 : decode cX2_endsPart 19 = .ok (.goto 4, 3) := by decide +kernel
theorem dX2_endsPart_22 : decode cX2_endsPart 22 = .ok (.iconst 0, 1) := by decide +kernel
theorem dX2_endsPart_23 : decode cX2_endsPart 23 = .ok (.ireturn, 1) := by decide +kernel
theorem dX2_isDigit_0 : decode cX2_isDigit 0 = .ok (.iload_n 0, 1) := by decide +kernel
theorem dX2_isDigit_1 : decode cX2_isDigit 1 = .ok (.bipush 48, 2) := by decide +kernel
theorem dX2_isDigit_3 : decode cX2_isDigit 3 = .ok (.if_icmp .lt 15, 3) := by decide +kernel
theorem dX2_isDigit_6 : decode cX2_isDigit 6 = .ok (.iload_n 0, 1) := by decide +kernel
theorem dX2_isDigit_7 : decode cX2_isDigit 7 = .ok (.bipush 48, 2) := by decide +kernel
theorem dX2_isDigit_9 : decode cX2_isDigit 9 = .ok (.iload_n 1, 1) := by decide +kernel
theorem dX2_isDigit_10 : decode cX2_isDigit 10 = .ok (.iadd, 1) := by decide +kernel
theorem dX2_isDigit_11 : decode cX2_isDigit 11 = .ok (.if_icmp .gt 7, 3) := by decide +kernel
theorem dX2_isDigit_14 : decode cX2_isDigit 14 = .ok (.iconst 1, 1) := by decide +kernel
theorem dX2_isDigit_15 : decode cX2_isDigit 15 = .ok (.goto 4, 3) := by decide +kernel
theorem dX2_isDigit_18 : decode cX2_isDigit 18 = .ok (.iconst 0, 1) := by decide +kernel
theorem dX2_isDigit_19 : decode cX2_isDigit 19 = .ok (.ireturn, 1) := by decide +kernel
abbrev rmX1_dropTop : Room := { frames := 1, cells := 0, slots := 0, locals := 21 }
abbrev MX1_dropTop : mj_M := (RX1, 1, wsX1_dropTop, rmX1_dropTop, false, none)
abbrev rmX1_init : Room := { frames := 1, cells := 1, slots := 966, locals := 21 }
abbrev MX1_init : mj_M := (RX1, 2, wsX1_init, rmX1_init, true, none)
abbrev rmX1_isInside : Room := { frames := 0, cells := 0, slots := 0, locals := 0 }
abbrev MX1_isInside : mj_M := (RX1, 2, wsX1_isInside, rmX1_isInside, false, none)
abbrev rmX1_push : Room := { frames := 1, cells := 0, slots := 0, locals := 21 }
abbrev MX1_push : mj_M := (RX1, 4, wsX1_push, rmX1_push, false, none)
abbrev rmX1_showTop : Room := { frames := 1, cells := 0, slots := 0, locals := 22 }
abbrev MX1_showTop : mj_M := (RX1, 4, wsX1_showTop, rmX1_showTop, false, none)
abbrev rmX1_size : Room := { frames := 0, cells := 0, slots := 0, locals := 0 }
abbrev MX1_size : mj_M := (RX1, 1, wsX1_size, rmX1_size, false, none)
theorem kX1_dropTop_Mmax : Cond.methodLink MX1_dropTop.1 15 Lib.Math.max.name ∈ MX1_dropTop.2.2.1 ∧ Cond.static Lib.Math.max.name ∈ MX1_dropTop.2.2.1 ∧ Cond.initialized "java/lang/Math" ∈ MX1_dropTop.2.2.1 ∧ Cond.code Lib.Math.max.name Lib.Math.max.code 2 (some .int) ∈ MX1_dropTop.2.2.1 := by decide +kernel
theorem fX1_dropTop_33 : mj_fl MX1_dropTop 33 1 2 := ⟨_, _, _, rfl, by decide +kernel, by decide, by decide +kernel⟩
theorem fX1_dropTop_18 : mj_fl MX1_dropTop 18 1 1 := ⟨_, _, _, rfl, by decide +kernel, by decide, by decide +kernel⟩
theorem pX1_dropTop_33 : mj_flp MX1_dropTop 33 1 2 .int := ⟨_, _, _, tyX1, rfl, by decide +kernel, by decide, by decide +kernel, tyX1_ok, nmX1, by decide +kernel, by decide +kernel⟩
theorem fX1_dropTop_30 : mj_fl MX1_dropTop 30 1 3 := ⟨_, _, _, rfl, by decide +kernel, by decide, by decide +kernel⟩
theorem pX1_dropTop_30 : mj_flp MX1_dropTop 30 1 3 .int := ⟨_, _, _, tyX1, rfl, by decide +kernel, by decide, by decide +kernel, tyX1_ok, nmX1, by decide +kernel, by decide +kernel⟩
theorem kX1_init_Mmin : Cond.methodLink MX1_init.1 9 Lib.Math.min.name ∈ MX1_init.2.2.1 ∧ Cond.static Lib.Math.min.name ∈ MX1_init.2.2.1 ∧ Cond.initialized "java/lang/Math" ∈ MX1_init.2.2.1 ∧ Cond.code Lib.Math.min.name Lib.Math.min.code 2 (some .int) ∈ MX1_init.2.2.1 := by decide +kernel
theorem kX1_init_Mmax : Cond.methodLink MX1_init.1 15 Lib.Math.max.name ∈ MX1_init.2.2.1 ∧ Cond.static Lib.Math.max.name ∈ MX1_init.2.2.1 ∧ Cond.initialized "java/lang/Math" ∈ MX1_init.2.2.1 ∧ Cond.code Lib.Math.max.name Lib.Math.max.code 2 (some .int) ∈ MX1_init.2.2.1 := by decide +kernel
theorem pX1_init_18 : mj_flp MX1_init 18 1 1 .int := ⟨_, _, _, tyX1, rfl, by decide +kernel, by decide, by decide +kernel, tyX1_ok, nmX1, by decide +kernel, by decide +kernel⟩
theorem fX1_init_18 : mj_fl MX1_init 18 1 1 := ⟨_, _, _, rfl, by decide +kernel, by decide, by decide +kernel⟩
theorem pX1_init_26 : mj_flp MX1_init 26 1 0 (.array .int) := ⟨_, _, _, tyX1, rfl, by decide +kernel, by decide, by decide +kernel, tyX1_ok, nmX1, by decide +kernel, by decide +kernel⟩
theorem fX1_isInside_26 : mj_fl MX1_isInside 26 1 0 := ⟨_, _, _, rfl, by decide +kernel, by decide, by decide +kernel⟩
theorem kX1_push_Mmin : Cond.methodLink MX1_push.1 9 Lib.Math.min.name ∈ MX1_push.2.2.1 ∧ Cond.static Lib.Math.min.name ∈ MX1_push.2.2.1 ∧ Cond.initialized "java/lang/Math" ∈ MX1_push.2.2.1 ∧ Cond.code Lib.Math.min.name Lib.Math.min.code 2 (some .int) ∈ MX1_push.2.2.1 := by decide +kernel
theorem kX1_push_X1_isInside : mj_cwV MX1_push 36 RX1 yX1_isInside wsX1_isInside rmX1_isInside 1 := ⟨_, _, _, _, gX1_push_X1_isInside, rfl, by decide +kernel, by decide⟩
theorem kX1_push_X0_at : mj_cwV MX1_push 40 RX0 yX0_at wsX0_at rmX0_at 1 := ⟨_, _, _, _, gX1_push_X0_at, rfl, by decide +kernel, by decide⟩
theorem fX1_push_33 : mj_fl MX1_push 33 1 2 := ⟨_, _, _, rfl, by decide +kernel, by decide, by decide +kernel⟩
theorem fX1_push_18 : mj_fl MX1_push 18 1 1 := ⟨_, _, _, rfl, by decide +kernel, by decide, by decide +kernel⟩
theorem pX1_push_33 : mj_flp MX1_push 33 1 2 .int := ⟨_, _, _, tyX1, rfl, by decide +kernel, by decide, by decide +kernel, tyX1_ok, nmX1, by decide +kernel, by decide +kernel⟩
theorem fX1_push_30 : mj_fl MX1_push 30 1 3 := ⟨_, _, _, rfl, by decide +kernel, by decide, by decide +kernel⟩
theorem pX1_push_30 : mj_flp MX1_push 30 1 3 .int := ⟨_, _, _, tyX1, rfl, by decide +kernel, by decide, by decide +kernel, tyX1_ok, nmX1, by decide +kernel, by decide +kernel⟩
theorem fX1_push_26 : mj_fl MX1_push 26 1 0 := ⟨_, _, _, rfl, by decide +kernel, by decide, by decide +kernel⟩
theorem kX1_showTop_X1_isInside : mj_cwV MX1_showTop 36 RX1 yX1_isInside wsX1_isInside rmX1_isInside 1 := ⟨_, _, _, _, gX1_showTop_X1_isInside, rfl, by decide +kernel, by decide⟩
theorem kX1_showTop_X0_put : mj_cwV MX1_showTop 44 RX0 yX0_put wsX0_put rmX0_put 2 := ⟨_, _, _, _, gX1_showTop_X0_put, rfl, by decide +kernel, by decide⟩
theorem fX1_showTop_33 : mj_fl MX1_showTop 33 1 2 := ⟨_, _, _, rfl, by decide +kernel, by decide, by decide +kernel⟩
theorem fX1_showTop_26 : mj_fl MX1_showTop 26 1 0 := ⟨_, _, _, rfl, by decide +kernel, by decide, by decide +kernel⟩
theorem fX1_size_30 : mj_fl MX1_size 30 1 3 := ⟨_, _, _, rfl, by decide +kernel, by decide, by decide +kernel⟩
abbrev rmX2_beginDays : Room := { frames := 1, cells := 0, slots := 0, locals := 21 }
abbrev MX2_beginDays : mj_M := (RX2, 1, wsX2_beginDays, rmX2_beginDays, false, none)
abbrev rmX2_beginPart : Room := { frames := 0, cells := 0, slots := 0, locals := 0 }
abbrev MX2_beginPart : mj_M := (RX2, 1, wsX2_beginPart, rmX2_beginPart, false, none)
abbrev rmX2_endsPart : Room := { frames := 0, cells := 0, slots := 0, locals := 0 }
abbrev MX2_endsPart : mj_M := (RX2, 1, wsX2_endsPart, rmX2_endsPart, false, none)
abbrev rmX2_init : Room := { frames := 1, cells := 1, slots := 60, locals := 21 }
abbrev MX2_init : mj_M := (RX2, 1, wsX2_init, rmX2_init, true, none)
abbrev rmX2_isComplete : Room := { frames := 3, cells := 0, slots := 0, locals := 62 }
abbrev MX2_isComplete : mj_M := (RX2, 3, wsX2_isComplete, rmX2_isComplete, false, none)
abbrev rmX2_isDigit : Room := { frames := 0, cells := 0, slots := 0, locals := 0 }
abbrev MX2_isDigit : mj_M := (RX2, 2, wsX2_isDigit, rmX2_isDigit, false, none)
abbrev rmX2_isPartBegin : Room := { frames := 1, cells := 0, slots := 0, locals := 21 }
abbrev MX2_isPartBegin : mj_M := (RX2, 2, wsX2_isPartBegin, rmX2_isPartBegin, false, none)
abbrev rmX2_length : Room := { frames := 0, cells := 0, slots := 0, locals := 0 }
abbrev MX2_length : mj_M := (RX2, 1, wsX2_length, rmX2_length, false, none)
abbrev rmX2_numberAt : Room := { frames := 1, cells := 0, slots := 0, locals := 21 }
abbrev MX2_numberAt : mj_M := (RX2, 3, wsX2_numberAt, rmX2_numberAt, false, none)
abbrev rmX2_push : Room := { frames := 0, cells := 0, slots := 0, locals := 0 }
abbrev MX2_push : mj_M := (RX2, 2, wsX2_push, rmX2_push, false, none)
abbrev rmX2_readNext : Room := { frames := 2, cells := 0, slots := 0, locals := 41 }
abbrev MX2_readNext : mj_M := (RX2, 2, wsX2_readNext, rmX2_readNext, false, none)
abbrev rmX2_rightSigns : Room := { frames := 3, cells := 0, slots := 0, locals := 62 }
abbrev MX2_rightSigns : mj_M := (RX2, 3, wsX2_rightSigns, rmX2_rightSigns, false, none)
abbrev rmX2_signAt : Room := { frames := 0, cells := 0, slots := 0, locals := 0 }
abbrev MX2_signAt : mj_M := (RX2, 2, wsX2_signAt, rmX2_signAt, false, none)
abbrev rmX2_wipe : Room := { frames := 0, cells := 0, slots := 0, locals := 0 }
abbrev MX2_wipe : mj_M := (RX2, 1, wsX2_wipe, rmX2_wipe, false, none)
theorem kX2_beginDays_X2_isDigit : mj_cwS MX2_beginDays 31 yX2_isDigit wsX2_isDigit rmX2_isDigit 2 := ⟨_, _, _, _, gX2_beginDays_X2_isDigit, rfl, by decide +kernel, by decide⟩
theorem pX2_init_9 : mj_flp MX2_init 9 2 0 (.array .char) := ⟨_, _, _, tyX2, rfl, by decide +kernel, by decide, by decide +kernel, tyX2_ok, nmX2, by decide +kernel, by decide +kernel⟩
theorem kX2_isComplete_X2_signAt : mj_cwV MX2_isComplete 19 RX2 yX2_signAt wsX2_signAt rmX2_signAt 1 := ⟨_, _, _, _, gX2_isComplete_X2_signAt, rfl, by decide +kernel, by decide⟩
theorem kX2_isComplete_X2_readNext : mj_cwS MX2_isComplete 23 yX2_readNext wsX2_readNext rmX2_readNext 2 := ⟨_, _, _, _, gX2_isComplete_X2_readNext, rfl, by decide +kernel, by decide⟩
theorem kX2_isComplete_X2_endsPart : mj_cwS MX2_isComplete 27 yX2_endsPart wsX2_endsPart rmX2_endsPart 1 := ⟨_, _, _, _, gX2_isComplete_X2_endsPart, rfl, by decide +kernel, by decide⟩
theorem fX2_isComplete_15 : mj_fl MX2_isComplete 15 2 1 := ⟨_, _, _, rfl, by decide +kernel, by decide, by decide +kernel⟩
theorem kX2_isPartBegin_X2_signAt : mj_cwV MX2_isPartBegin 19 RX2 yX2_signAt wsX2_signAt rmX2_signAt 1 := ⟨_, _, _, _, gX2_isPartBegin_X2_signAt, rfl, by decide +kernel, by decide⟩
theorem fX2_length_15 : mj_fl MX2_length 15 2 1 := ⟨_, _, _, rfl, by decide +kernel, by decide, by decide +kernel⟩
theorem kX2_numberAt_X2_signAt : mj_cwV MX2_numberAt 19 RX2 yX2_signAt wsX2_signAt rmX2_signAt 1 := ⟨_, _, _, _, gX2_numberAt_X2_signAt, rfl, by decide +kernel, by decide⟩
theorem kX2_numberAt_X2_isDigit : mj_cwS MX2_numberAt 31 yX2_isDigit wsX2_isDigit rmX2_isDigit 2 := ⟨_, _, _, _, gX2_numberAt_X2_isDigit, rfl, by decide +kernel, by decide⟩
theorem fX2_push_15 : mj_fl MX2_push 15 2 1 := ⟨_, _, _, rfl, by decide +kernel, by decide, by decide +kernel⟩
theorem fX2_push_9 : mj_fl MX2_push 9 2 0 := ⟨_, _, _, rfl, by decide +kernel, by decide, by decide +kernel⟩
theorem pX2_push_15 : mj_flp MX2_push 15 2 1 .int := ⟨_, _, _, tyX2, rfl, by decide +kernel, by decide, by decide +kernel, tyX2_ok, nmX2, by decide +kernel, by decide +kernel⟩
theorem kX2_readNext_X2_endsPart : mj_cwS MX2_readNext 27 yX2_endsPart wsX2_endsPart rmX2_endsPart 1 := ⟨_, _, _, _, gX2_readNext_X2_endsPart, rfl, by decide +kernel, by decide⟩
theorem kX2_readNext_X2_beginPart : mj_cwS MX2_readNext 35 yX2_beginPart wsX2_beginPart rmX2_beginPart 1 := ⟨_, _, _, _, gX2_readNext_X2_beginPart, rfl, by decide +kernel, by decide⟩
theorem kX2_readNext_X2_isDigit : mj_cwS MX2_readNext 31 yX2_isDigit wsX2_isDigit rmX2_isDigit 2 := ⟨_, _, _, _, gX2_readNext_X2_isDigit, rfl, by decide +kernel, by decide⟩
theorem kX2_readNext_X2_beginDays : mj_cwS MX2_readNext 39 yX2_beginDays wsX2_beginDays rmX2_beginDays 1 := ⟨_, _, _, _, gX2_readNext_X2_beginDays, rfl, by decide +kernel, by decide⟩
theorem kX2_rightSigns_X2_signAt : mj_cwV MX2_rightSigns 19 RX2 yX2_signAt wsX2_signAt rmX2_signAt 1 := ⟨_, _, _, _, gX2_rightSigns_X2_signAt, rfl, by decide +kernel, by decide⟩
theorem kX2_rightSigns_X2_readNext : mj_cwS MX2_rightSigns 23 yX2_readNext wsX2_readNext rmX2_readNext 2 := ⟨_, _, _, _, gX2_rightSigns_X2_readNext, rfl, by decide +kernel, by decide⟩
theorem fX2_rightSigns_15 : mj_fl MX2_rightSigns 15 2 1 := ⟨_, _, _, rfl, by decide +kernel, by decide, by decide +kernel⟩
theorem fX2_signAt_15 : mj_fl MX2_signAt 15 2 1 := ⟨_, _, _, rfl, by decide +kernel, by decide, by decide +kernel⟩
theorem fX2_signAt_9 : mj_fl MX2_signAt 9 2 0 := ⟨_, _, _, rfl, by decide +kernel, by decide, by decide +kernel⟩
theorem pX2_wipe_15 : mj_flp MX2_wipe 15 2 1 .int := ⟨_, _, _, tyX2, rfl, by decide +kernel, by decide, by decide +kernel, tyX2_ok, nmX2, by decide +kernel, by decide +kernel⟩
